theorem hk_ix {r i : Int32} (hr : inR r 3) (hi : inR i 3) : 3 * r + i = nI (3 * cl r + cl i) ∧ 3 * cl r + cl i < 9 := by
  have h1 := in_cl hr
  have h2 := in_cl hi
  have e1 := in_nI hr (by decide)
  have e2 := in_nI hi (by decide)
  refine ⟨?_, by omega⟩
  conv => lhs; rw [e1, e2, show (3 : Int32) = nI 3 from rfl, pk_mul, nI_add]
theorem hk_ixn {r : Int32} {i : Nat} (hr : inR r 3) (hi : i < 3) : 3 * r + nI i = nI (3 * cl r + i) ∧ 3 * cl r + i < 9 := by
  have h1 := in_cl hr
  have e1 := in_nI hr (by decide)
  refine ⟨?_, by omega⟩
  conv => lhs; rw [e1, show (3 : Int32) = nI 3 from rfl, pk_mul, nI_add]
theorem sh_self {z : SG} {k : Nat} {x : Int32} (h : (setI z 2 k x).1 2 k < 0) : x < 0 := by
  have e : (setI z 2 k x).1 2 k = x := by show upd (z.1 2) k x k = x; exact pk_us
  rw [e] at h; exact h
theorem sh_selfn {z : SG} {k : Nat} {x : Int32} (h : ¬ (setI z 2 k x).1 2 k < 0) : ¬ x < 0 := fun q => h (by
  have e : (setI z 2 k x).1 2 k = x := by show upd (z.1 2) k x k = x; exact pk_us
  rw [e]; exact q)
set_option maxHeartbeats 4000000 in
set_option maxRecDepth 100000 in
theorem c_X5_share (l : Launch) (D : va_G) (cT : Nat → ClassId) {M : hmp} {a : Nat → Nat} {z : SG} (hR : RS cT a M z) {n : Nat} (hI : INV n z) (hn : n ≤ 512) (cv f t : Int32) (sz : Nat) : Met l yX5_share (wz yX5_share cX5_share 4 (some .int)) ({ frames := 1, cells := 0, slots := 0, locals := 22 } : Room) (mP D cT [.ref (a 0), .int cv, .int f, .int t] M sz) (mQi (fun rr MM => rr = (sp_share z cv f t).1 ∧ RS cT a MM (sp_share z cv f t).2) D M sz) 0 0 (FA M sz) := by
  refine mk_m (by decide +kernel) (Nat.le_of_ble_eq_true rfl) ?_
  intro p e s m args below meth c S hK hsz hM hr hlocks hnm ls hl
  have hx := S.1
  have hb := S.2.1
  have hml := S.2.2.1
  have hown := S.2.2.2.1
  have hts := S.2.2.2.2
  have hl : lv_has ls 4 [(0, .ref (a 0)), (1, .int cv), (2, .int f), (3, .int t)] := hl
  refine lv_iload_n hx hb dX5_share_0 rfl (lv_at hl 2 rfl) ?_
  refine lv_iconst (v := 0) hx hb dX5_share_1 (by decide) ?_
  refine lv_iconst (v := 5) hx hb dX5_share_2 (by decide) ?_
  refine pc_b (rS (rest := []) S hK (c_X5_in l D cT s.heap f 0 5 (n := 6) (by decide) (by decide)) sm_X5_in w_2_171 ⟨Nat.le_of_ble_eq_true rfl, Nat.le_of_ble_eq_true rfl⟩ ⟨rfl, rfl⟩ rfl hl.1 rfl (Nat.le_of_ble_eq_true rfl) dX5_share_3 ⟨Nat.le_of_ble_eq_true rfl, Nat.le_of_ble_eq_true rfl⟩) (fun c3 => ?_) (fun c3 => ?_)
  · skip
    refine lv_if_eq (tgt := 18) hx hb dX5_share_6 (by decide) (fun h => absurd h (by decide)) (fun _ => ?_)
    refine lv_iload_n hx hb dX5_share_9 rfl (lv_at hl 3 rfl) ?_
    refine lv_iconst (v := 0) hx hb dX5_share_10 (by decide) ?_
    refine lv_iconst (v := 5) hx hb dX5_share_11 (by decide) ?_
    refine pc_b (rS (rest := []) S hK (c_X5_in l D cT s.heap t 0 5 (n := 6) (by decide) (by decide)) sm_X5_in w_2_171 ⟨Nat.le_of_ble_eq_true rfl, Nat.le_of_ble_eq_true rfl⟩ ⟨rfl, rfl⟩ rfl hl.1 rfl (Nat.le_of_ble_eq_true rfl) dX5_share_12 ⟨Nat.le_of_ble_eq_true rfl, Nat.le_of_ble_eq_true rfl⟩) (fun c12 => ?_) (fun c12 => ?_)
    · skip
      refine lv_if_ne (tgt := 20) hx hb dX5_share_15 (by decide) (fun _ => ?_) (fun h => absurd h (by decide))
      refine lv_aload_n hx hb dX5_share_20 rfl (lv_at hl 0 rfl) ?_
      refine hm_get S hK hM.pr cI5 (RS.c0 hR) 3 (by decide) w_2_103 rfl dX5_share_21 ?_
      refine lv_iload_n hx hb dX5_share_24 rfl (lv_at hl 1 rfl) ?_
      refine lv_iload_n hx hb dX5_share_25 rfl (lv_at hl 3 rfl) ?_
      refine pc_i (rS (rest := [.ref (a 3)]) S hK (c_X5_slotOf l D cT s.heap cv t) sm_X5_slotOf w_2_174 ⟨Nat.le_of_ble_eq_true rfl, Nat.le_of_ble_eq_true rfl⟩ ⟨rfl, rfl⟩ rfl hl.1 rfl (Nat.le_of_ble_eq_true rfl) dX5_share_26 ⟨Nat.le_of_ble_eq_true rfl, Nat.le_of_ble_eq_true rfl⟩) (fun r1 hr1 => ?_)
      subst hr1
      refine lv_aload_n hx hb dX5_share_29 rfl (lv_at hl 0 rfl) ?_
      refine hm_get S hK hM.pr cI5 (RS.c0 hR) 3 (by decide) w_2_103 rfl dX5_share_30 ?_
      refine lv_iload_n hx hb dX5_share_33 rfl (lv_at hl 1 rfl) ?_
      refine lv_iload_n hx hb dX5_share_34 rfl (lv_at hl 2 rfl) ?_
      refine pc_i (rS (rest := [.ref (a 3), .int (if cv = 0 then t else 6 + t), .ref (a 3)]) S hK (c_X5_slotOf l D cT s.heap cv f) sm_X5_slotOf w_2_174 ⟨Nat.le_of_ble_eq_true rfl, Nat.le_of_ble_eq_true rfl⟩ ⟨rfl, rfl⟩ rfl hl.1 rfl (Nat.le_of_ble_eq_true rfl) dX5_share_35 ⟨Nat.le_of_ble_eq_true rfl, Nat.le_of_ble_eq_true rfl⟩) (fun r2 hr2 => ?_)
      subst hr2
      refine hm_iald S hK hM.pr (RS.c3 hR) (slot_lt (cv := cv) c3).1 dX5_share_38 ?_
      refine hm_iast S hK hM (RS.c3 hR) (slot_lt (cv := cv) c12).1 dX5_share_39 (fun H locs M3 hM3 hM => ?_)
      have hR := RS.u3 (k := (Int32.toNatClampNeg (if cv = 0 then t else 6 + t))) (x := (z.1 2 (Int32.toNatClampNeg (if cv = 0 then f else 6 + f)))) hR hM3
      refine lv_aload_n hx hb dX5_share_40 rfl (lv_at hl 0 rfl) ?_
      refine hm_get S hK hM.pr cI5 (RS.c0 hR) 3 (by decide) w_2_103 rfl dX5_share_41 ?_
      refine lv_iload_n hx hb dX5_share_44 rfl (lv_at hl 1 rfl) ?_
      refine lv_iload_n hx hb dX5_share_45 rfl (lv_at hl 3 rfl) ?_
      refine pc_i (rS (rest := [.ref (a 3)]) S hK (c_X5_slotOf l D cT H cv t) sm_X5_slotOf w_2_174 ⟨Nat.le_of_ble_eq_true rfl, Nat.le_of_ble_eq_true rfl⟩ ⟨rfl, rfl⟩ rfl hl.1 rfl (Nat.le_of_ble_eq_true rfl) dX5_share_46 ⟨Nat.le_of_ble_eq_true rfl, Nat.le_of_ble_eq_true rfl⟩) (fun r4 hr4 => ?_)
      subst hr4
      refine hm_iald S hK hM.pr (RS.c3 hR) (slot_lt (cv := cv) c12).1 dX5_share_49 ?_
      refine lv_if_ge (tgt := 57) hx hb dX5_share_50 (by decide) (fun c50 => ?_) (fun c50 => ?_)
      · replace c50 := Int32.not_lt.mpr c50
        refine lv_iconst (v := 1) hx hb dX5_share_57 (by decide) ?_
        refine mr_i S hM hr hlocks dX5_share_58 ⟨Nat.le_of_ble_eq_true rfl, Nat.le_of_ble_eq_true rfl⟩ ?_
        have e9 : sp_share z cv f t = (1, (setI z 2 (Int32.toNatClampNeg (if cv = 0 then t else 6 + t)) (z.1 2 (Int32.toNatClampNeg (if cv = 0 then f else 6 + f))))) := by unfold sp_share; rw [if_pos ⟨c3, c12⟩]; rw [show (if z.1 2 (slot cv f) < 0 then (0 : Int32) else 1) = 1 from if_neg (sh_selfn c50)]; rfl
        rw [e9]
        exact ⟨rfl, hR⟩
      · replace c50 := Int32.not_le.mp c50
        refine lv_iconst (v := 0) hx hb dX5_share_53 (by decide) ?_
        refine lv_goto (tgt := 58) hx hb dX5_share_54 (by decide) ?_
        refine mr_i S hM hr hlocks dX5_share_58 ⟨Nat.le_of_ble_eq_true rfl, Nat.le_of_ble_eq_true rfl⟩ ?_
        have e9 : sp_share z cv f t = (0, (setI z 2 (Int32.toNatClampNeg (if cv = 0 then t else 6 + t)) (z.1 2 (Int32.toNatClampNeg (if cv = 0 then f else 6 + f))))) := by unfold sp_share; rw [if_pos ⟨c3, c12⟩]; rw [show (if z.1 2 (slot cv f) < 0 then (0 : Int32) else 1) = 0 from if_pos (sh_self c50)]; rfl
        rw [e9]
        exact ⟨rfl, hR⟩
    · skip
      refine lv_if_ne (tgt := 20) hx hb dX5_share_15 (by decide) (fun h => absurd rfl h) (fun _ => ?_)
      refine lv_iconst (v := (-1)) hx hb dX5_share_18 (by decide) ?_
      refine mr_i S hM hr hlocks dX5_share_19 ⟨Nat.le_of_ble_eq_true rfl, Nat.le_of_ble_eq_true rfl⟩ ?_
      have e9 : sp_share z cv f t = ((-1), z) := by unfold sp_share; rw [if_neg (fun q => c12 q.2)]
      rw [e9]
      exact ⟨rfl, hR⟩
  · skip
    refine lv_if_eq (tgt := 18) hx hb dX5_share_6 (by decide) (fun _ => ?_) (fun h => absurd (by decide) h)
    refine lv_iconst (v := (-1)) hx hb dX5_share_18 (by decide) ?_
    refine mr_i S hM hr hlocks dX5_share_19 ⟨Nat.le_of_ble_eq_true rfl, Nat.le_of_ble_eq_true rfl⟩ ?_
    have e9 : sp_share z cv f t = ((-1), z) := by unfold sp_share; rw [if_neg (fun q => c3 q.1)]
    rw [e9]
    exact ⟨rfl, hR⟩
set_option maxHeartbeats 4000000 in
set_option maxRecDepth 100000 in
theorem c_X5_drop (l : Launch) (D : va_G) (cT : Nat → ClassId) {M : hmp} {a : Nat → Nat} {z : SG} (hR : RS cT a M z) {n : Nat} (hI : INV n z) (hn : n ≤ 512) (cv k : Int32) (sz : Nat) : Met l yX5_drop (wz yX5_drop cX5_drop 4 (some .int)) ({ frames := 1, cells := 0, slots := 0, locals := 22 } : Room) (mP D cT [.ref (a 0), .int cv, .int k] M sz) (mQi (fun rr MM => rr = (sp_drop z cv k).1 ∧ RS cT a MM (sp_drop z cv k).2) D M sz) 0 0 (FA M sz) := by
  refine mk_m (by decide +kernel) (Nat.le_of_ble_eq_true rfl) ?_
  intro p e s m args below meth c S hK hsz hM hr hlocks hnm ls hl
  have hx := S.1
  have hb := S.2.1
  have hml := S.2.2.1
  have hown := S.2.2.2.1
  have hts := S.2.2.2.2
  have hl : lv_has ls 4 [(0, .ref (a 0)), (1, .int cv), (2, .int k)] := hl
  refine lv_iload_n hx hb dX5_drop_0 rfl (lv_at hl 2 rfl) ?_
  refine lv_iconst (v := 0) hx hb dX5_drop_1 (by decide) ?_
  refine lv_iconst (v := 5) hx hb dX5_drop_2 (by decide) ?_
  refine pc_b (rS (rest := []) S hK (c_X5_in l D cT s.heap k 0 5 (n := 6) (by decide) (by decide)) sm_X5_in w_2_171 ⟨Nat.le_of_ble_eq_true rfl, Nat.le_of_ble_eq_true rfl⟩ ⟨rfl, rfl⟩ rfl hl.1 rfl (Nat.le_of_ble_eq_true rfl) dX5_drop_3 ⟨Nat.le_of_ble_eq_true rfl, Nat.le_of_ble_eq_true rfl⟩) (fun c3 => ?_) (fun c3 => ?_)
  · skip
    refine lv_if_ne (tgt := 11) hx hb dX5_drop_6 (by decide) (fun _ => ?_) (fun h => absurd h (by decide))
    refine lv_aload_n hx hb dX5_drop_11 rfl (lv_at hl 0 rfl) ?_
    refine hm_get S hK hM.pr cI5 (RS.c0 hR) 3 (by decide) w_2_103 rfl dX5_drop_12 ?_
    refine lv_iload_n hx hb dX5_drop_15 rfl (lv_at hl 1 rfl) ?_
    refine lv_iload_n hx hb dX5_drop_16 rfl (lv_at hl 2 rfl) ?_
    refine pc_i (rS (rest := [.ref (a 3)]) S hK (c_X5_slotOf l D cT s.heap cv k) sm_X5_slotOf w_2_174 ⟨Nat.le_of_ble_eq_true rfl, Nat.le_of_ble_eq_true rfl⟩ ⟨rfl, rfl⟩ rfl hl.1 rfl (Nat.le_of_ble_eq_true rfl) dX5_drop_17 ⟨Nat.le_of_ble_eq_true rfl, Nat.le_of_ble_eq_true rfl⟩) (fun r1 hr1 => ?_)
    subst hr1
    refine hm_iald S hK hM.pr (RS.c3 hR) (slot_lt (cv := cv) c3).1 dX5_drop_20 ?_
    refine lv_if_ge (tgt := 28) hx hb dX5_drop_21 (by decide) (fun c21 => ?_) (fun c21 => ?_)
    · replace c21 := Int32.not_lt.mpr c21
      refine lv_iconst (v := 1) hx hb dX5_drop_28 (by decide) ?_
      refine lv_istore_n (lv' := [(3, .int 1), (0, .ref (a 0)), (1, .int cv), (2, .int k)]) hx hb dX5_drop_29 rfl hl (by decide) rfl (fun ls hl => ?_)
      refine lv_aload_n hx hb dX5_drop_30 rfl (lv_at hl 1 rfl) ?_
      refine hm_get S hK hM.pr cI5 (RS.c0 hR) 3 (by decide) w_2_103 rfl dX5_drop_31 ?_
      refine lv_iload_n hx hb dX5_drop_34 rfl (lv_at hl 2 rfl) ?_
      refine lv_iload_n hx hb dX5_drop_35 rfl (lv_at hl 3 rfl) ?_
      refine pc_i (rS (rest := [.ref (a 3)]) S hK (c_X5_slotOf l D cT s.heap cv k) sm_X5_slotOf w_2_174 ⟨Nat.le_of_ble_eq_true rfl, Nat.le_of_ble_eq_true rfl⟩ ⟨rfl, rfl⟩ rfl hl.1 rfl (Nat.le_of_ble_eq_true rfl) dX5_drop_36 ⟨Nat.le_of_ble_eq_true rfl, Nat.le_of_ble_eq_true rfl⟩) (fun r2 hr2 => ?_)
      subst hr2
      refine lv_iconst (v := (-1)) hx hb dX5_drop_39 (by decide) ?_
      refine hm_iast S hK hM (RS.c3 hR) (slot_lt (cv := cv) c3).1 dX5_drop_40 (fun H locs M3 hM3 hM => ?_)
      have hR := RS.u3 (k := (Int32.toNatClampNeg (if cv = 0 then k else 6 + k))) (x := (-1)) hR hM3
      refine lv_iload_n hx hb dX5_drop_41 rfl (lv_at hl 0 rfl) ?_
      refine mr_i S hM hr hlocks dX5_drop_42 ⟨Nat.le_of_ble_eq_true rfl, Nat.le_of_ble_eq_true rfl⟩ ?_
      have e9 : sp_drop z cv k = (1, (setI z 2 (Int32.toNatClampNeg (if cv = 0 then k else 6 + k)) (-1))) := by unfold sp_drop; rw [if_pos c3]; rw [show (if z.1 2 (slot cv k) < 0 then (0 : Int32) else 1) = 1 from if_neg c21]; rfl
      rw [e9]
      exact ⟨rfl, hR⟩
    · replace c21 := Int32.not_le.mp c21
      refine lv_iconst (v := 0) hx hb dX5_drop_24 (by decide) ?_
      refine lv_goto (tgt := 29) hx hb dX5_drop_25 (by decide) ?_
      refine lv_istore_n (lv' := [(3, .int 0), (0, .ref (a 0)), (1, .int cv), (2, .int k)]) hx hb dX5_drop_29 rfl hl (by decide) rfl (fun ls hl => ?_)
      refine lv_aload_n hx hb dX5_drop_30 rfl (lv_at hl 1 rfl) ?_
      refine hm_get S hK hM.pr cI5 (RS.c0 hR) 3 (by decide) w_2_103 rfl dX5_drop_31 ?_
      refine lv_iload_n hx hb dX5_drop_34 rfl (lv_at hl 2 rfl) ?_
      refine lv_iload_n hx hb dX5_drop_35 rfl (lv_at hl 3 rfl) ?_
      refine pc_i (rS (rest := [.ref (a 3)]) S hK (c_X5_slotOf l D cT s.heap cv k) sm_X5_slotOf w_2_174 ⟨Nat.le_of_ble_eq_true rfl, Nat.le_of_ble_eq_true rfl⟩ ⟨rfl, rfl⟩ rfl hl.1 rfl (Nat.le_of_ble_eq_true rfl) dX5_drop_36 ⟨Nat.le_of_ble_eq_true rfl, Nat.le_of_ble_eq_true rfl⟩) (fun r4 hr4 => ?_)
      subst hr4
      refine lv_iconst (v := (-1)) hx hb dX5_drop_39 (by decide) ?_
      refine hm_iast S hK hM (RS.c3 hR) (slot_lt (cv := cv) c3).1 dX5_drop_40 (fun H locs M5 hM5 hM => ?_)
      have hR := RS.u3 (k := (Int32.toNatClampNeg (if cv = 0 then k else 6 + k))) (x := (-1)) hR hM5
      refine lv_iload_n hx hb dX5_drop_41 rfl (lv_at hl 0 rfl) ?_
      refine mr_i S hM hr hlocks dX5_drop_42 ⟨Nat.le_of_ble_eq_true rfl, Nat.le_of_ble_eq_true rfl⟩ ?_
      have e9 : sp_drop z cv k = (0, (setI z 2 (Int32.toNatClampNeg (if cv = 0 then k else 6 + k)) (-1))) := by unfold sp_drop; rw [if_pos c3]; rw [show (if z.1 2 (slot cv k) < 0 then (0 : Int32) else 1) = 0 from if_pos c21]; rfl
      rw [e9]
      exact ⟨rfl, hR⟩
  · skip
    refine lv_if_ne (tgt := 11) hx hb dX5_drop_6 (by decide) (fun h => absurd rfl h) (fun _ => ?_)
    refine lv_iconst (v := (-1)) hx hb dX5_drop_9 (by decide) ?_
    refine mr_i S hM hr hlocks dX5_drop_10 ⟨Nat.le_of_ble_eq_true rfl, Nat.le_of_ble_eq_true rfl⟩ ?_
    have e9 : sp_drop z cv k = ((-1), z) := by unfold sp_drop; rw [if_neg (fun q => c3 q)]
    rw [e9]
    exact ⟨rfl, hR⟩
set_option maxHeartbeats 4000000 in
set_option maxRecDepth 100000 in
theorem c_X5_set (l : Launch) (D : va_G) (cT : Nat → ClassId) {M : hmp} {a : Nat → Nat} {z : SG} (hR : RS cT a M z) {n : Nat} (hI : INV n z) (hn : n ≤ 512) (cv k i : Int32) (b : Int64) (sz : Nat) : Met l yX5_set (wz yX5_set cX5_set 7 (some .int)) ({ frames := 2, cells := 0, slots := 0, locals := 46 } : Room) (mP D cT [.ref (a 0), .int cv, .int k, .int i, .long b] M sz) (mQi (fun rr MM => rr = (sp_set z cv k i b).1 ∧ RS cT a MM (sp_set z cv k i b).2) D M sz) 0 0 (FA M sz) := by
  refine mk_m (by decide +kernel) (Nat.le_of_ble_eq_true rfl) ?_
  intro p e s m args below meth c S hK hsz hM hr hlocks hnm ls hl
  have hx := S.1
  have hb := S.2.1
  have hml := S.2.2.1
  have hown := S.2.2.2.1
  have hts := S.2.2.2.2
  have hl : lv_has ls 7 [(0, .ref (a 0)), (1, .int cv), (2, .int k), (3, .int i), (4, .long b)] := hl
  refine lv_iload_n hx hb dX5_set_0 rfl (lv_at hl 2 rfl) ?_
  refine lv_iconst (v := 0) hx hb dX5_set_1 (by decide) ?_
  refine lv_iconst (v := 5) hx hb dX5_set_2 (by decide) ?_
  refine pc_b (rS (rest := []) S hK (c_X5_in l D cT s.heap k 0 5 (n := 6) (by decide) (by decide)) sm_X5_in w_2_171 ⟨Nat.le_of_ble_eq_true rfl, Nat.le_of_ble_eq_true rfl⟩ ⟨rfl, rfl⟩ rfl hl.1 rfl (Nat.le_of_ble_eq_true rfl) dX5_set_3 ⟨Nat.le_of_ble_eq_true rfl, Nat.le_of_ble_eq_true rfl⟩) (fun c3 => ?_) (fun c3 => ?_)
  · skip
    refine lv_if_eq (tgt := 18) hx hb dX5_set_6 (by decide) (fun h => absurd h (by decide)) (fun _ => ?_)
    refine lv_iload_n hx hb dX5_set_9 rfl (lv_at hl 1 rfl) ?_
    refine lv_lload hx hb dX5_set_10 (lv_at hl 4 rfl) ?_
    refine pc_b (rS (rest := []) S hK (c_X5_isFine l D cT s.heap cv b) sm_X5_isFine w_2_189 ⟨Nat.le_of_ble_eq_true rfl, Nat.le_of_ble_eq_true rfl⟩ ⟨rfl, rfl⟩ rfl hl.1 rfl (Nat.le_of_ble_eq_true rfl) dX5_set_12 ⟨Nat.le_of_ble_eq_true rfl, Nat.le_of_ble_eq_true rfl⟩) (fun c12 => ?_) (fun c12 => ?_)
    · skip
      refine lv_if_ne (tgt := 20) hx hb dX5_set_15 (by decide) (fun _ => ?_) (fun h => absurd h (by decide))
      refine lv_aload_n hx hb dX5_set_20 rfl (lv_at hl 0 rfl) ?_
      refine lv_iload_n hx hb dX5_set_21 rfl (lv_at hl 1 rfl) ?_
      refine lv_iload_n hx hb dX5_set_22 rfl (lv_at hl 2 rfl) ?_
      refine lv_iload_n hx hb dX5_set_23 rfl (lv_at hl 3 rfl) ?_
      refine pc_i (rV (rest := []) S hK hM.pr cI5 (RS.c0 hR) rfl (c_X5_asked l D cT s.heap hM.pr hR hI hn cv k i c3) sm_X5_asked w_S_10 w_2_196 ⟨Nat.le_of_ble_eq_true rfl, Nat.le_of_ble_eq_true rfl⟩ ⟨rfl, rfl⟩ rfl hl.1 rfl (Nat.le_of_ble_eq_true rfl) dX5_set_24 ⟨Nat.le_of_ble_eq_true rfl, Nat.le_of_ble_eq_true rfl⟩) (fun r1 hr1 => ?_)
      subst hr1
      refine lv_istore (lv' := [(6, .int (ask z cv k i)), (0, .ref (a 0)), (1, .int cv), (2, .int k), (3, .int i), (4, .long b)]) hx hb dX5_set_27 hl (by decide) rfl (fun ls hl => ?_)
      refine lv_iload hx hb dX5_set_29 (lv_at hl 0 rfl) ?_
      refine lv_if_eq (tgt := 40) hx hb dX5_set_31 (by decide) (fun c31 => ?_) (fun c31 => ?_)
      · skip
        have hix := itm_ix hI hn c3 c31
        refine lv_aload_n hx hb dX5_set_40 rfl (lv_at hl 1 rfl) ?_
        refine hm_get S hK hM.pr cI5 (RS.c0 hR) 2 (by decide) w_2_102 rfl dX5_set_41 ?_
        refine lv_bipush (v := 16) hx hb dX5_set_44 (by decide) ?_
        refine lv_aload_n hx hb dX5_set_46 rfl (lv_at hl 1 rfl) ?_
        refine hm_get S hK hM.pr cI5 (RS.c0 hR) 3 (by decide) w_2_103 rfl dX5_set_47 ?_
        refine lv_iload_n hx hb dX5_set_50 rfl (lv_at hl 2 rfl) ?_
        refine lv_iload_n hx hb dX5_set_51 rfl (lv_at hl 3 rfl) ?_
        refine pc_i (rS (rest := [.ref (a 3), .int 16, .ref (a 2)]) S hK (c_X5_slotOf l D cT s.heap cv k) sm_X5_slotOf w_2_174 ⟨Nat.le_of_ble_eq_true rfl, Nat.le_of_ble_eq_true rfl⟩ ⟨rfl, rfl⟩ rfl hl.1 rfl (Nat.le_of_ble_eq_true rfl) dX5_set_52 ⟨Nat.le_of_ble_eq_true rfl, Nat.le_of_ble_eq_true rfl⟩) (fun r2 hr2 => ?_)
        subst hr2
        refine hm_iald S hK hM.pr (RS.c3 hR) (slot_lt (cv := cv) c3).1 dX5_set_55 ?_
        refine lv_imul hx hb dX5_set_56 ?_
        refine lv_iload_n hx hb dX5_set_57 rfl (lv_at hl 4 rfl) ?_
        refine lv_iadd hx hb dX5_set_58 ?_
        refine lv_iload_n hx hb dX5_set_59 rfl (lv_at hl 2 rfl) ?_
        refine lv_lload hx hb dX5_set_60 (lv_at hl 5 rfl) ?_
        refine pc_d (rS (rest := [.int ((16 * (z.1 2 (Int32.toNatClampNeg (if cv = 0 then k else 6 + k)))) + i), .ref (a 2)]) S hK (c_X5_number l D cT s.heap cv b c12) sm_X5_number w_2_203 ⟨Nat.le_of_ble_eq_true rfl, Nat.le_of_ble_eq_true rfl⟩ ⟨rfl, rfl⟩ rfl hl.1 rfl (Nat.le_of_ble_eq_true rfl) dX5_set_62 ⟨Nat.le_of_ble_eq_true rfl, Nat.le_of_ble_eq_true rfl⟩) (fun r3 hr3 => ?_)
        subst hr3
        refine hm_dast S hK hM (RS.c2 hR) (by show vp_in (16 * z.1 2 (slot cv k) + i) 9600; rw [hix.1]; exact vp_in_nI hix.2.1 (by decide)) dX5_set_65 (fun H locs M4 hM4 hM => ?_)
        rw [show Int32.toNatClampNeg (16 * z.1 2 (Int32.toNatClampNeg (if cv = 0 then k else 6 + k)) + i) = itm z cv k i from (congrArg cl hix.1).trans (cl_nI (by omega))] at hM4
        have hR := RS.u2 (k := (itm z cv k i)) (x := (numB cv b)) hR hM4
        refine lv_iconst (v := 1) hx hb dX5_set_66 (by decide) ?_
        refine mr_i S hM hr hlocks dX5_set_67 ⟨Nat.le_of_ble_eq_true rfl, Nat.le_of_ble_eq_true rfl⟩ ?_
        have e9 : sp_set z cv k i b = (1, (setF z 0 (itm z cv k i) (numB cv b))) := by unfold sp_set; rw [if_pos ⟨c3, c12⟩]; rw [if_pos c31]; rfl
        rw [e9]
        exact ⟨rfl, hR⟩
      · skip
        refine lv_iload hx hb dX5_set_34 (lv_at hl 0 rfl) ?_
        refine pc_i (rS (rest := []) S hK (c_X5_fails l D cT s.heap (ask z cv k i)) sm_X5_fails w_2_200 ⟨Nat.le_of_ble_eq_true rfl, Nat.le_of_ble_eq_true rfl⟩ ⟨rfl, rfl⟩ rfl hl.1 rfl (Nat.le_of_ble_eq_true rfl) dX5_set_36 ⟨Nat.le_of_ble_eq_true rfl, Nat.le_of_ble_eq_true rfl⟩) (fun r5 hr5 => ?_)
        subst hr5
        refine mr_i S hM hr hlocks dX5_set_39 ⟨Nat.le_of_ble_eq_true rfl, Nat.le_of_ble_eq_true rfl⟩ ?_
        have e9 : sp_set z cv k i b = ((-10 - (ask z cv k i)), z) := by unfold sp_set; rw [if_pos ⟨c3, c12⟩]; rw [if_neg c31]
        rw [e9]
        exact ⟨rfl, hR⟩
    · skip
      refine lv_if_ne (tgt := 20) hx hb dX5_set_15 (by decide) (fun h => absurd rfl h) (fun _ => ?_)
      refine lv_iconst (v := (-1)) hx hb dX5_set_18 (by decide) ?_
      refine mr_i S hM hr hlocks dX5_set_19 ⟨Nat.le_of_ble_eq_true rfl, Nat.le_of_ble_eq_true rfl⟩ ?_
      have e9 : sp_set z cv k i b = ((-1), z) := by unfold sp_set; rw [if_neg (fun q => c12 q.2)]
      rw [e9]
      exact ⟨rfl, hR⟩
  · skip
    refine lv_if_eq (tgt := 18) hx hb dX5_set_6 (by decide) (fun _ => ?_) (fun h => absurd (by decide) h)
    refine lv_iconst (v := (-1)) hx hb dX5_set_18 (by decide) ?_
    refine mr_i S hM hr hlocks dX5_set_19 ⟨Nat.le_of_ble_eq_true rfl, Nat.le_of_ble_eq_true rfl⟩ ?_
    have e9 : sp_set z cv k i b = ((-1), z) := by unfold sp_set; rw [if_neg (fun q => c3 q.1)]
    rw [e9]
    exact ⟨rfl, hR⟩
set_option maxHeartbeats 4000000 in
set_option maxRecDepth 100000 in
theorem c_X5_get (l : Launch) (D : va_G) (cT : Nat → ClassId) {M : hmp} {a : Nat → Nat} {z : SG} (hR : RS cT a M z) {n : Nat} (hI : INV n z) (hn : n ≤ 512) (cv k i : Int32) (sz : Nat) : Met l yX5_get (wz yX5_get cX5_get 5 (some .int)) ({ frames := 3, cells := 0, slots := 0, locals := 67 } : Room) (mP D cT [.ref (a 0), .int cv, .int k, .int i] M sz) (mQi (fun rr MM => rr = (sp_get z cv k i).1 ∧ RS cT a MM (sp_get z cv k i).2) D M sz) 0 0 (FA M sz) := by
  refine mk_m (by decide +kernel) (Nat.le_of_ble_eq_true rfl) ?_
  intro p e s m args below meth c S hK hsz hM hr hlocks hnm ls hl
  have hx := S.1
  have hb := S.2.1
  have hml := S.2.2.1
  have hown := S.2.2.2.1
  have hts := S.2.2.2.2
  have hl : lv_has ls 5 [(0, .ref (a 0)), (1, .int cv), (2, .int k), (3, .int i)] := hl
  refine lv_iload_n hx hb dX5_get_0 rfl (lv_at hl 2 rfl) ?_
  refine lv_iconst (v := 0) hx hb dX5_get_1 (by decide) ?_
  refine lv_iconst (v := 5) hx hb dX5_get_2 (by decide) ?_
  refine pc_b (rS (rest := []) S hK (c_X5_in l D cT s.heap k 0 5 (n := 6) (by decide) (by decide)) sm_X5_in w_2_171 ⟨Nat.le_of_ble_eq_true rfl, Nat.le_of_ble_eq_true rfl⟩ ⟨rfl, rfl⟩ rfl hl.1 rfl (Nat.le_of_ble_eq_true rfl) dX5_get_3 ⟨Nat.le_of_ble_eq_true rfl, Nat.le_of_ble_eq_true rfl⟩) (fun c3 => ?_) (fun c3 => ?_)
  · skip
    refine lv_if_ne (tgt := 11) hx hb dX5_get_6 (by decide) (fun _ => ?_) (fun h => absurd h (by decide))
    refine lv_aload_n hx hb dX5_get_11 rfl (lv_at hl 0 rfl) ?_
    refine lv_iload_n hx hb dX5_get_12 rfl (lv_at hl 1 rfl) ?_
    refine lv_iload_n hx hb dX5_get_13 rfl (lv_at hl 2 rfl) ?_
    refine lv_iload_n hx hb dX5_get_14 rfl (lv_at hl 3 rfl) ?_
    refine pc_i (rV (rest := []) S hK hM.pr cI5 (RS.c0 hR) rfl (c_X5_asked l D cT s.heap hM.pr hR hI hn cv k i c3) sm_X5_asked w_S_10 w_2_196 ⟨Nat.le_of_ble_eq_true rfl, Nat.le_of_ble_eq_true rfl⟩ ⟨rfl, rfl⟩ rfl hl.1 rfl (Nat.le_of_ble_eq_true rfl) dX5_get_15 ⟨Nat.le_of_ble_eq_true rfl, Nat.le_of_ble_eq_true rfl⟩) (fun r1 hr1 => ?_)
    subst hr1
    refine lv_istore (lv' := [(4, .int (ask z cv k i)), (0, .ref (a 0)), (1, .int cv), (2, .int k), (3, .int i)]) hx hb dX5_get_18 hl (by decide) rfl (fun ls hl => ?_)
    refine lv_iload hx hb dX5_get_20 (lv_at hl 0 rfl) ?_
    refine lv_if_eq (tgt := 31) hx hb dX5_get_22 (by decide) (fun c22 => ?_) (fun c22 => ?_)
    · skip
      refine lv_aload_n hx hb dX5_get_31 rfl (lv_at hl 1 rfl) ?_
      refine lv_iload_n hx hb dX5_get_32 rfl (lv_at hl 2 rfl) ?_
      refine lv_aload_n hx hb dX5_get_33 rfl (lv_at hl 1 rfl) ?_
      refine lv_iload_n hx hb dX5_get_34 rfl (lv_at hl 2 rfl) ?_
      refine lv_iload_n hx hb dX5_get_35 rfl (lv_at hl 3 rfl) ?_
      refine lv_iload_n hx hb dX5_get_36 rfl (lv_at hl 4 rfl) ?_
      refine pc_d (rV (rest := [.int cv, .ref (a 0)]) S hK hM.pr cI5 (RS.c0 hR) rfl (c_X5_item l D cT s.heap hM.pr hR hI hn cv k i c3 c22) sm_X5_item w_S_11 w_2_216 ⟨Nat.le_of_ble_eq_true rfl, Nat.le_of_ble_eq_true rfl⟩ ⟨rfl, rfl⟩ rfl hl.1 rfl (Nat.le_of_ble_eq_true rfl) dX5_get_37 ⟨Nat.le_of_ble_eq_true rfl, Nat.le_of_ble_eq_true rfl⟩) (fun r2 hr2 => ?_)
      subst hr2
      refine pc_l (rS (rest := [.ref (a 0)]) S hK (c_X5_bitsOf l D cT s.heap cv (z.2.1 0 (itm z cv k i)) (fin64_nn (hI.it (slot_lt (cv := cv) c3).2.1 (ask_0 c22).1 (itm_ix hI hn c3 c22).2.2))) sm_X5_bitsOf w_2_220 ⟨Nat.le_of_ble_eq_true rfl, Nat.le_of_ble_eq_true rfl⟩ ⟨rfl, rfl⟩ rfl hl.1 rfl (Nat.le_of_ble_eq_true rfl) dX5_get_40 ⟨Nat.le_of_ble_eq_true rfl, Nat.le_of_ble_eq_true rfl⟩) (fun r3 hr3 => ?_)
      subst hr3
      refine hm_put S hK hM cI5 (RS.c0 hR) 20 (by decide) w_2_120 rfl rfl rfl (Nat.le_of_ble_eq_true rfl) dX5_get_43 (fun H locs M4 hM4 hM => ?_)
      have hR := RS.f20 hR hM4
      refine lv_iconst (v := 1) hx hb dX5_get_46 (by decide) ?_
      refine mr_i S hM hr hlocks dX5_get_47 ⟨Nat.le_of_ble_eq_true rfl, Nat.le_of_ble_eq_true rfl⟩ ?_
      have e9 : sp_get z cv k i = (1, (setL z 1 1 (bitB cv (z.2.1 0 (itm z cv k i))))) := by unfold sp_get; rw [if_pos c3]; rw [if_pos c22]; rfl
      rw [e9]
      exact ⟨rfl, hR⟩
    · skip
      refine lv_iload hx hb dX5_get_25 (lv_at hl 0 rfl) ?_
      refine pc_i (rS (rest := []) S hK (c_X5_fails l D cT s.heap (ask z cv k i)) sm_X5_fails w_2_200 ⟨Nat.le_of_ble_eq_true rfl, Nat.le_of_ble_eq_true rfl⟩ ⟨rfl, rfl⟩ rfl hl.1 rfl (Nat.le_of_ble_eq_true rfl) dX5_get_27 ⟨Nat.le_of_ble_eq_true rfl, Nat.le_of_ble_eq_true rfl⟩) (fun r5 hr5 => ?_)
      subst hr5
      refine mr_i S hM hr hlocks dX5_get_30 ⟨Nat.le_of_ble_eq_true rfl, Nat.le_of_ble_eq_true rfl⟩ ?_
      have e9 : sp_get z cv k i = ((-10 - (ask z cv k i)), z) := by unfold sp_get; rw [if_pos c3]; rw [if_neg c22]
      rw [e9]
      exact ⟨rfl, hR⟩
  · skip
    refine lv_if_ne (tgt := 11) hx hb dX5_get_6 (by decide) (fun h => absurd rfl h) (fun _ => ?_)
    refine lv_iconst (v := (-1)) hx hb dX5_get_9 (by decide) ?_
    refine mr_i S hM hr hlocks dX5_get_10 ⟨Nat.le_of_ble_eq_true rfl, Nat.le_of_ble_eq_true rfl⟩ ?_
    have e9 : sp_get z cv k i = ((-1), z) := by unfold sp_get; rw [if_neg (fun q => c3 q)]
    rw [e9]
    exact ⟨rfl, hR⟩
set_option maxHeartbeats 4000000 in
set_option maxRecDepth 100000 in
theorem c_X5_wrap (l : Launch) (D : va_G) (cT : Nat → ClassId) {M : hmp} {a : Nat → Nat} {z : SG} (hR : RS cT a M z) {n : Nat} (hI : INV n z) (hn : n ≤ 512) (cv k i j : Int32) (sz : Nat) : Met l yX5_wrap (wz yX5_wrap cX5_wrap 8 (some .int)) ({ frames := 2, cells := 0, slots := 0, locals := 46 } : Room) (mP D cT [.ref (a 0), .int cv, .int k, .int i, .int j] M sz) (mQi (fun rr MM => rr = (sp_wrap z cv k i j).1 ∧ RS cT a MM (sp_wrap z cv k i j).2) D M sz) 0 0 (FA M sz) := by
  refine mk_m (by decide +kernel) (Nat.le_of_ble_eq_true rfl) ?_
  intro p e s m args below meth c S hK hsz hM hr hlocks hnm ls hl
  have hx := S.1
  have hb := S.2.1
  have hml := S.2.2.1
  have hown := S.2.2.2.1
  have hts := S.2.2.2.2
  have hl : lv_has ls 8 [(0, .ref (a 0)), (1, .int cv), (2, .int k), (3, .int i), (4, .int j)] := hl
  refine lv_iload_n hx hb dX5_wrap_0 rfl (lv_at hl 2 rfl) ?_
  refine lv_iconst (v := 0) hx hb dX5_wrap_1 (by decide) ?_
  refine lv_iconst (v := 5) hx hb dX5_wrap_2 (by decide) ?_
  refine pc_b (rS (rest := []) S hK (c_X5_in l D cT s.heap k 0 5 (n := 6) (by decide) (by decide)) sm_X5_in w_2_171 ⟨Nat.le_of_ble_eq_true rfl, Nat.le_of_ble_eq_true rfl⟩ ⟨rfl, rfl⟩ rfl hl.1 rfl (Nat.le_of_ble_eq_true rfl) dX5_wrap_3 ⟨Nat.le_of_ble_eq_true rfl, Nat.le_of_ble_eq_true rfl⟩) (fun c3 => ?_) (fun c3 => ?_)
  · skip
    refine lv_if_ne (tgt := 11) hx hb dX5_wrap_6 (by decide) (fun _ => ?_) (fun h => absurd h (by decide))
    refine lv_aload_n hx hb dX5_wrap_11 rfl (lv_at hl 0 rfl) ?_
    refine lv_iload_n hx hb dX5_wrap_12 rfl (lv_at hl 1 rfl) ?_
    refine lv_iload_n hx hb dX5_wrap_13 rfl (lv_at hl 2 rfl) ?_
    refine lv_iload_n hx hb dX5_wrap_14 rfl (lv_at hl 3 rfl) ?_
    refine pc_i (rV (rest := []) S hK hM.pr cI5 (RS.c0 hR) rfl (c_X5_asked l D cT s.heap hM.pr hR hI hn cv k i c3) sm_X5_asked w_S_10 w_2_196 ⟨Nat.le_of_ble_eq_true rfl, Nat.le_of_ble_eq_true rfl⟩ ⟨rfl, rfl⟩ rfl hl.1 rfl (Nat.le_of_ble_eq_true rfl) dX5_wrap_15 ⟨Nat.le_of_ble_eq_true rfl, Nat.le_of_ble_eq_true rfl⟩) (fun r1 hr1 => ?_)
    subst hr1
    refine lv_istore (lv' := [(5, .int (ask z cv k i)), (0, .ref (a 0)), (1, .int cv), (2, .int k), (3, .int i), (4, .int j)]) hx hb dX5_wrap_18 hl (by decide) rfl (fun ls hl => ?_)
    refine lv_iload hx hb dX5_wrap_20 (lv_at hl 0 rfl) ?_
    refine lv_if_eq (tgt := 30) hx hb dX5_wrap_22 (by decide) (fun c22 => ?_) (fun c22 => ?_)
    · skip
      refine lv_aload_n hx hb dX5_wrap_30 rfl (lv_at hl 1 rfl) ?_
      refine lv_iload_n hx hb dX5_wrap_31 rfl (lv_at hl 2 rfl) ?_
      refine lv_iload_n hx hb dX5_wrap_32 rfl (lv_at hl 3 rfl) ?_
      refine lv_iload hx hb dX5_wrap_33 (lv_at hl 5 rfl) ?_
      refine pc_i (rV (rest := []) S hK hM.pr cI5 (RS.c0 hR) rfl (c_X5_asked l D cT s.heap hM.pr hR hI hn cv k j c3) sm_X5_asked w_S_10 w_2_196 ⟨Nat.le_of_ble_eq_true rfl, Nat.le_of_ble_eq_true rfl⟩ ⟨rfl, rfl⟩ rfl hl.1 rfl (Nat.le_of_ble_eq_true rfl) dX5_wrap_35 ⟨Nat.le_of_ble_eq_true rfl, Nat.le_of_ble_eq_true rfl⟩) (fun r2 hr2 => ?_)
      subst hr2
      refine lv_istore (lv' := [(5, .int (ask z cv k j)), (0, .ref (a 0)), (1, .int cv), (2, .int k), (3, .int i), (4, .int j)]) hx hb dX5_wrap_38 hl (by decide) rfl (fun ls hl => ?_)
      refine lv_iload hx hb dX5_wrap_40 (lv_at hl 0 rfl) ?_
      refine lv_if_eq (tgt := 51) hx hb dX5_wrap_42 (by decide) (fun c42 => ?_) (fun c42 => ?_)
      · skip
        refine lv_aload_n hx hb dX5_wrap_51 rfl (lv_at hl 1 rfl) ?_
        refine lv_iload_n hx hb dX5_wrap_52 rfl (lv_at hl 2 rfl) ?_
        refine lv_iload_n hx hb dX5_wrap_53 rfl (lv_at hl 3 rfl) ?_
        refine lv_iload hx hb dX5_wrap_54 (lv_at hl 5 rfl) ?_
        refine pc_d (rV (rest := []) S hK hM.pr cI5 (RS.c0 hR) rfl (c_X5_item l D cT s.heap hM.pr hR hI hn cv k j c3 c42) sm_X5_item w_S_11 w_2_216 ⟨Nat.le_of_ble_eq_true rfl, Nat.le_of_ble_eq_true rfl⟩ ⟨rfl, rfl⟩ rfl hl.1 rfl (Nat.le_of_ble_eq_true rfl) dX5_wrap_56 ⟨Nat.le_of_ble_eq_true rfl, Nat.le_of_ble_eq_true rfl⟩) (fun r3 hr3 => ?_)
        subst hr3
        refine lv_dstore (lv' := [(6, .double (z.2.1 0 (itm z cv k j))), (5, .int (ask z cv k j)), (0, .ref (a 0)), (1, .int cv), (2, .int k), (3, .int i), (4, .int j)]) hx hb dX5_wrap_59 hl (by decide) rfl (fun ls hl => ?_)
        refine lv_dload hx hb dX5_wrap_61 (lv_at hl 0 rfl) ?_
        refine lv_dconst0 hx hb dX5_wrap_63 ?_
        refine lv_dcmp hx hb dX5_wrap_64 ?_
        refine lv_if_ne (tgt := 73) hx hb dX5_wrap_65 (by decide) (fun c65 => ?_) (fun c65 => ?_)
        · replace c65 := (cv_dcmp_l_ne _ _).mp c65
          have hix := itm_ix hI hn c3 c22
          have f1 := hI.it (slot_lt (cv := cv) c3).2.1 (ask_0 c22).1 hix.2.2
          have f2 := hI.it (slot_lt (cv := cv) c3).2.1 (ask_0 c42).1 (itm_ix hI hn c3 c42).2.2
          refine lv_aload_n hx hb dX5_wrap_73 rfl (lv_at hl 2 rfl) ?_
          refine hm_get S hK hM.pr cI5 (RS.c0 hR) 2 (by decide) w_2_102 rfl dX5_wrap_74 ?_
          refine lv_bipush (v := 16) hx hb dX5_wrap_77 (by decide) ?_
          refine lv_aload_n hx hb dX5_wrap_79 rfl (lv_at hl 2 rfl) ?_
          refine hm_get S hK hM.pr cI5 (RS.c0 hR) 3 (by decide) w_2_103 rfl dX5_wrap_80 ?_
          refine lv_iload_n hx hb dX5_wrap_83 rfl (lv_at hl 3 rfl) ?_
          refine lv_iload_n hx hb dX5_wrap_84 rfl (lv_at hl 4 rfl) ?_
          refine pc_i (rS (rest := [.ref (a 3), .int 16, .ref (a 2)]) S hK (c_X5_slotOf l D cT s.heap cv k) sm_X5_slotOf w_2_174 ⟨Nat.le_of_ble_eq_true rfl, Nat.le_of_ble_eq_true rfl⟩ ⟨rfl, rfl⟩ rfl hl.1 rfl (Nat.le_of_ble_eq_true rfl) dX5_wrap_85 ⟨Nat.le_of_ble_eq_true rfl, Nat.le_of_ble_eq_true rfl⟩) (fun r4 hr4 => ?_)
          subst hr4
          refine hm_iald S hK hM.pr (RS.c3 hR) (slot_lt (cv := cv) c3).1 dX5_wrap_88 ?_
          refine lv_imul hx hb dX5_wrap_89 ?_
          refine lv_iload_n hx hb dX5_wrap_90 rfl (lv_at hl 5 rfl) ?_
          refine lv_iadd hx hb dX5_wrap_91 ?_
          refine lv_aload_n hx hb dX5_wrap_92 rfl (lv_at hl 2 rfl) ?_
          refine lv_iload_n hx hb dX5_wrap_93 rfl (lv_at hl 3 rfl) ?_
          refine lv_iload_n hx hb dX5_wrap_94 rfl (lv_at hl 4 rfl) ?_
          refine lv_iload_n hx hb dX5_wrap_95 rfl (lv_at hl 5 rfl) ?_
          refine pc_d (rV (rest := [.int ((16 * (z.1 2 (Int32.toNatClampNeg (if cv = 0 then k else 6 + k)))) + i), .ref (a 2)]) S hK hM.pr cI5 (RS.c0 hR) rfl (c_X5_item l D cT s.heap hM.pr hR hI hn cv k i c3 c22) sm_X5_item w_S_11 w_2_216 ⟨Nat.le_of_ble_eq_true rfl, Nat.le_of_ble_eq_true rfl⟩ ⟨rfl, rfl⟩ rfl hl.1 rfl (Nat.le_of_ble_eq_true rfl) dX5_wrap_96 ⟨Nat.le_of_ble_eq_true rfl, Nat.le_of_ble_eq_true rfl⟩) (fun r5 hr5 => ?_)
          subst hr5
          refine lv_dload hx hb dX5_wrap_99 (lv_at hl 0 rfl) ?_
          refine lv_drem hx hb dX5_wrap_101 (n64_of (nn_rem f1 f2 (Nat.pos_of_ne_zero (fun q => c65 ((eq0_iff f2).mpr q))))) ?_
          refine hm_dast S hK hM (RS.c2 hR) (by show vp_in (16 * z.1 2 (slot cv k) + i) 9600; rw [hix.1]; exact vp_in_nI hix.2.1 (by decide)) dX5_wrap_102 (fun H locs M6 hM6 hM => ?_)
          rw [show Int32.toNatClampNeg (16 * z.1 2 (Int32.toNatClampNeg (if cv = 0 then k else 6 + k)) + i) = itm z cv k i from (congrArg cl hix.1).trans (cl_nI (by omega))] at hM6
          have hR := RS.u2 (k := (itm z cv k i)) (x := (FP.drem (z.2.1 0 (itm z cv k i)) (z.2.1 0 (itm z cv k j)))) hR hM6
          refine lv_iconst (v := 1) hx hb dX5_wrap_103 (by decide) ?_
          refine mr_i S hM hr hlocks dX5_wrap_104 ⟨Nat.le_of_ble_eq_true rfl, Nat.le_of_ble_eq_true rfl⟩ ?_
          have e9 : sp_wrap z cv k i j = (1, (setF z 0 (itm z cv k i) (FP.drem (z.2.1 0 (itm z cv k i)) (z.2.1 0 (itm z cv k j))))) := by unfold sp_wrap; rw [if_pos c3]; rw [if_pos ⟨c22, c42⟩, if_neg c65]; rfl
          rw [e9]
          exact ⟨rfl, hR⟩
        · replace c65 := (cv_dcmp_l_ne_n _ _).mp c65
          refine lv_iconst (v := 5) hx hb dX5_wrap_68 (by decide) ?_
          refine pc_i (rS (rest := []) S hK (c_X5_fails l D cT s.heap 5) sm_X5_fails w_2_200 ⟨Nat.le_of_ble_eq_true rfl, Nat.le_of_ble_eq_true rfl⟩ ⟨rfl, rfl⟩ rfl hl.1 rfl (Nat.le_of_ble_eq_true rfl) dX5_wrap_69 ⟨Nat.le_of_ble_eq_true rfl, Nat.le_of_ble_eq_true rfl⟩) (fun r7 hr7 => ?_)
          subst hr7
          refine mr_i S hM hr hlocks dX5_wrap_72 ⟨Nat.le_of_ble_eq_true rfl, Nat.le_of_ble_eq_true rfl⟩ ?_
          have e9 : sp_wrap z cv k i j = ((-10 - 5), z) := by unfold sp_wrap; rw [if_pos c3]; rw [if_pos ⟨c22, c42⟩, if_pos c65]; rfl
          rw [e9]
          exact ⟨rfl, hR⟩
      · skip
        refine lv_iload hx hb dX5_wrap_45 (lv_at hl 0 rfl) ?_
        refine pc_i (rS (rest := []) S hK (c_X5_fails l D cT s.heap (ask z cv k j)) sm_X5_fails w_2_200 ⟨Nat.le_of_ble_eq_true rfl, Nat.le_of_ble_eq_true rfl⟩ ⟨rfl, rfl⟩ rfl hl.1 rfl (Nat.le_of_ble_eq_true rfl) dX5_wrap_47 ⟨Nat.le_of_ble_eq_true rfl, Nat.le_of_ble_eq_true rfl⟩) (fun r8 hr8 => ?_)
        subst hr8
        refine mr_i S hM hr hlocks dX5_wrap_50 ⟨Nat.le_of_ble_eq_true rfl, Nat.le_of_ble_eq_true rfl⟩ ?_
        have e9 : sp_wrap z cv k i j = ((-10 - (ask z cv k j)), z) := by unfold sp_wrap; rw [if_pos c3]; rw [if_neg (fun q => c42 q.2), if_pos c22]
        rw [e9]
        exact ⟨rfl, hR⟩
    · skip
      refine lv_iload hx hb dX5_wrap_25 (lv_at hl 0 rfl) ?_
      refine lv_goto (tgt := 38) hx hb dX5_wrap_27 (by decide) ?_
      refine lv_istore (lv' := [(5, .int (ask z cv k i)), (0, .ref (a 0)), (1, .int cv), (2, .int k), (3, .int i), (4, .int j)]) hx hb dX5_wrap_38 hl (by decide) rfl (fun ls hl => ?_)
      refine lv_iload hx hb dX5_wrap_40 (lv_at hl 0 rfl) ?_
      refine lv_if_eq (tgt := 51) hx hb dX5_wrap_42 (by decide) (fun h => absurd h c22) (fun _ => ?_)
      refine lv_iload hx hb dX5_wrap_45 (lv_at hl 0 rfl) ?_
      refine pc_i (rS (rest := []) S hK (c_X5_fails l D cT s.heap (ask z cv k i)) sm_X5_fails w_2_200 ⟨Nat.le_of_ble_eq_true rfl, Nat.le_of_ble_eq_true rfl⟩ ⟨rfl, rfl⟩ rfl hl.1 rfl (Nat.le_of_ble_eq_true rfl) dX5_wrap_47 ⟨Nat.le_of_ble_eq_true rfl, Nat.le_of_ble_eq_true rfl⟩) (fun r9 hr9 => ?_)
      subst hr9
      refine mr_i S hM hr hlocks dX5_wrap_50 ⟨Nat.le_of_ble_eq_true rfl, Nat.le_of_ble_eq_true rfl⟩ ?_
      have e9 : sp_wrap z cv k i j = ((-10 - (ask z cv k i)), z) := by unfold sp_wrap; rw [if_pos c3]; rw [if_neg (fun q => c22 q.1), if_neg c22]
      rw [e9]
      exact ⟨rfl, hR⟩
  · skip
    refine lv_if_ne (tgt := 11) hx hb dX5_wrap_6 (by decide) (fun h => absurd rfl h) (fun _ => ?_)
    refine lv_iconst (v := (-1)) hx hb dX5_wrap_9 (by decide) ?_
    refine mr_i S hM hr hlocks dX5_wrap_10 ⟨Nat.le_of_ble_eq_true rfl, Nat.le_of_ble_eq_true rfl⟩ ?_
    have e9 : sp_wrap z cv k i j = ((-1), z) := by unfold sp_wrap; rw [if_neg (fun q => c3 q)]
    rw [e9]
    exact ⟨rfl, hR⟩
set_option maxHeartbeats 4000000 in
set_option maxRecDepth 100000 in
theorem c_X5_effect (l : Launch) (D : va_G) (cT : Nat → ClassId) {M : hmp} {a : Nat → Nat} {z : SG} (hR : RS cT a M z) {n : Nat} (hI : INV n z) (hn : n ≤ 512) (k kd : Int32) (b : Int64) (sz : Nat) : Met l yX5_effect (wz yX5_effect cX5_effect 7 (some .int)) ({ frames := 1, cells := 0, slots := 0, locals := 24 } : Room) (mP D cT [.ref (a 0), .int k, .int kd, .long b] M sz) (mQi (fun rr MM => rr = (sp_effect z k kd b).1 ∧ RS cT a MM (sp_effect z k kd b).2) D M sz) 0 0 (FA M sz) := by
  refine mk_m (by decide +kernel) (Nat.le_of_ble_eq_true rfl) ?_
  intro p e s m args below meth c S hK hsz hM hr hlocks hnm ls hl
  have hx := S.1
  have hb := S.2.1
  have hml := S.2.2.1
  have hown := S.2.2.2.1
  have hts := S.2.2.2.2
  have hl : lv_has ls 7 [(0, .ref (a 0)), (1, .int k), (2, .int kd), (3, .long b)] := hl
  refine lv_iload_n hx hb dX5_effect_0 rfl (lv_at hl 1 rfl) ?_
  refine lv_iconst (v := 0) hx hb dX5_effect_1 (by decide) ?_
  refine lv_iconst (v := 5) hx hb dX5_effect_2 (by decide) ?_
  refine pc_b (rS (rest := []) S hK (c_X5_in l D cT s.heap k 0 5 (n := 6) (by decide) (by decide)) sm_X5_in w_2_171 ⟨Nat.le_of_ble_eq_true rfl, Nat.le_of_ble_eq_true rfl⟩ ⟨rfl, rfl⟩ rfl hl.1 rfl (Nat.le_of_ble_eq_true rfl) dX5_effect_3 ⟨Nat.le_of_ble_eq_true rfl, Nat.le_of_ble_eq_true rfl⟩) (fun c3 => ?_) (fun c3 => ?_)
  · skip
    refine lv_if_eq (tgt := 26) hx hb dX5_effect_6 (by decide) (fun h => absurd h (by decide)) (fun _ => ?_)
    refine lv_iload_n hx hb dX5_effect_9 rfl (lv_at hl 2 rfl) ?_
    refine lv_iconst (v := 0) hx hb dX5_effect_10 (by decide) ?_
    refine lv_iconst (v := 2) hx hb dX5_effect_11 (by decide) ?_
    refine pc_b (rS (rest := []) S hK (c_X5_in l D cT s.heap kd 0 2 (n := 3) (by decide) (by decide)) sm_X5_in w_2_171 ⟨Nat.le_of_ble_eq_true rfl, Nat.le_of_ble_eq_true rfl⟩ ⟨rfl, rfl⟩ rfl hl.1 rfl (Nat.le_of_ble_eq_true rfl) dX5_effect_12 ⟨Nat.le_of_ble_eq_true rfl, Nat.le_of_ble_eq_true rfl⟩) (fun c12 => ?_) (fun c12 => ?_)
    · skip
      refine lv_if_eq (tgt := 26) hx hb dX5_effect_15 (by decide) (fun h => absurd h (by decide)) (fun _ => ?_)
      refine lv_iconst (v := 1) hx hb dX5_effect_18 (by decide) ?_
      refine lv_lload_n hx hb dX5_effect_19 rfl (lv_at hl 3 rfl) ?_
      refine pc_b (rS (rest := []) S hK (c_X5_isFine l D cT s.heap 1 b) sm_X5_isFine w_2_189 ⟨Nat.le_of_ble_eq_true rfl, Nat.le_of_ble_eq_true rfl⟩ ⟨rfl, rfl⟩ rfl hl.1 rfl (Nat.le_of_ble_eq_true rfl) dX5_effect_20 ⟨Nat.le_of_ble_eq_true rfl, Nat.le_of_ble_eq_true rfl⟩) (fun c20 => ?_) (fun c20 => ?_)
      · skip
        refine lv_if_ne (tgt := 28) hx hb dX5_effect_23 (by decide) (fun _ => ?_) (fun h => absurd h (by decide))
        refine lv_lload_n hx hb dX5_effect_28 rfl (lv_at hl 3 rfl) ?_
        refine vn_l2d hx hb (hml.trans hl.1.symm) hown (hts _ w_2_206) (hts _ w_2_208) (hts _ w_2_207) (hts _ w_1_5) (sn_l c20) (Nat.le_of_ble_eq_true rfl) (Nat.le_of_ble_eq_true rfl) dX5_effect_29 ?_
        refine lv_dstore (lv' := [(5, .double (Int64.toUInt64 b)), (0, .ref (a 0)), (1, .int k), (2, .int kd), (3, .long b)]) hx hb dX5_effect_32 hl (by decide) rfl (fun ls hl => ?_)
        refine lv_dload hx hb dX5_effect_34 (lv_at hl 0 rfl) ?_
        refine lv_ldc2d hx hb hown (hts _ w_3_11) dX5_effect_36 ?_
        refine lv_dcmp hx hb dX5_effect_39 ?_
        refine lv_if_lt (tgt := 52) hx hb dX5_effect_40 (by decide) (fun c40 => ?_) (fun c40 => ?_)
        · replace c40 := (cv_dcmp_g_lt _ _).mp c40
          refine lv_iconst (v := (-1)) hx hb dX5_effect_52 (by decide) ?_
          refine mr_i S hM hr hlocks dX5_effect_53 ⟨Nat.le_of_ble_eq_true rfl, Nat.le_of_ble_eq_true rfl⟩ ?_
          have e9 : sp_effect z k kd b = ((-1), z) := by unfold sp_effect; rw [if_neg (fun q => q.2.2.2.1 c40)]
          rw [e9]
          exact ⟨rfl, hR⟩
        · replace c40 := (cv_dcmp_g_lt_n _ _).mp c40
          refine lv_dload hx hb dX5_effect_43 (lv_at hl 0 rfl) ?_
          refine lv_ldc2d hx hb hown (hts _ w_3_12) dX5_effect_45 ?_
          refine lv_dcmp hx hb dX5_effect_48 ?_
          refine lv_if_le (tgt := 54) hx hb dX5_effect_49 (by decide) (fun c49 => ?_) (fun c49 => ?_)
          · replace c49 := (cv_dcmp_l_le _ _).mp c49
            obtain ⟨m1, hm0, hm1⟩ := hI.m0 hn
            refine lv_aload_n hx hb dX5_effect_54 rfl (lv_at hl 1 rfl) ?_
            refine hm_get S hK hM.pr cI5 (RS.c0 hR) 5 (by decide) w_2_105 rfl dX5_effect_55 ?_
            refine lv_aload_n hx hb dX5_effect_58 rfl (lv_at hl 1 rfl) ?_
            refine hm_get S hK hM.pr cI5 (RS.c0 hR) 4 (by decide) w_2_104 rfl dX5_effect_59 ?_
            refine lv_iload_n hx hb dX5_effect_62 rfl (lv_at hl 3 rfl) ?_
            refine hm_iast S hK hM (RS.c4 hR) (by show vp_in (z.1 0 1) 600; rw [hm1]; exact vp_in_nI (by omega) (by decide)) dX5_effect_63 (fun H locs M1 hM1 hM => ?_)
            have hR := RS.u4 (k := (Int32.toNatClampNeg (z.1 0 1))) (x := kd) hR hM1
            refine lv_aload_n hx hb dX5_effect_64 rfl (lv_at hl 1 rfl) ?_
            refine hm_get S hK hM.pr cI5 (RS.c0 hR) 6 (by decide) w_2_106 rfl dX5_effect_65 ?_
            refine lv_aload_n hx hb dX5_effect_68 rfl (lv_at hl 1 rfl) ?_
            refine hm_get S hK hM.pr cI5 (RS.c0 hR) 4 (by decide) w_2_104 rfl dX5_effect_69 ?_
            refine lv_dload hx hb dX5_effect_72 (lv_at hl 0 rfl) ?_
            refine hm_dast S hK hM (RS.c5 hR) (by show vp_in (z.1 0 1) 600; rw [hm1]; exact vp_in_nI (by omega) (by decide)) dX5_effect_74 (fun H locs M2 hM2 hM => ?_)
            have hR := RS.u5 (k := (Int32.toNatClampNeg ((setI z 3 (Int32.toNatClampNeg (z.1 0 1)) kd).1 0 1))) (x := (Int64.toUInt64 b)) hR hM2
            refine lv_aload_n hx hb dX5_effect_75 rfl (lv_at hl 1 rfl) ?_
            refine hm_get S hK hM.pr cI5 (RS.c0 hR) 7 (by decide) w_2_107 rfl dX5_effect_76 ?_
            refine lv_iload_n hx hb dX5_effect_79 rfl (lv_at hl 2 rfl) ?_
            refine lv_aload_n hx hb dX5_effect_80 rfl (lv_at hl 1 rfl) ?_
            refine hm_get S hK hM.pr cI5 (RS.c0 hR) 4 (by decide) w_2_104 rfl dX5_effect_81 ?_
            refine hm_iast S hK hM (RS.c6 hR) c3 dX5_effect_84 (fun H locs M3 hM3 hM => ?_)
            have hR := RS.u6 (k := (Int32.toNatClampNeg k)) (x := ((setF (setI z 3 (Int32.toNatClampNeg (z.1 0 1)) kd) 1 (Int32.toNatClampNeg ((setI z 3 (Int32.toNatClampNeg (z.1 0 1)) kd).1 0 1)) (Int64.toUInt64 b)).1 0 1)) hR hM3
            refine lv_aload_n hx hb dX5_effect_85 rfl (lv_at hl 1 rfl) ?_
            refine lv_dup hx hb dX5_effect_86 rfl ?_
            refine hm_get S hK hM.pr cI5 (RS.c0 hR) 4 (by decide) w_2_104 rfl dX5_effect_87 ?_
            refine lv_iconst (v := 1) hx hb dX5_effect_90 (by decide) ?_
            refine lv_iadd hx hb dX5_effect_91 ?_
            refine hm_put S hK hM cI5 (RS.c0 hR) 4 (by decide) w_2_104 rfl rfl rfl (Nat.le_of_ble_eq_true rfl) dX5_effect_92 (fun H locs M4 hM4 hM => ?_)
            have hR := RS.f4 hR hM4
            refine lv_iconst (v := 1) hx hb dX5_effect_95 (by decide) ?_
            refine mr_i S hM hr hlocks dX5_effect_96 ⟨Nat.le_of_ble_eq_true rfl, Nat.le_of_ble_eq_true rfl⟩ ?_
            have e9 : sp_effect z k kd b = (1, (setI (setI (setF (setI z 3 (Int32.toNatClampNeg (z.1 0 1)) kd) 1 (Int32.toNatClampNeg ((setI z 3 (Int32.toNatClampNeg (z.1 0 1)) kd).1 0 1)) (Int64.toUInt64 b)) 4 (Int32.toNatClampNeg k) ((setF (setI z 3 (Int32.toNatClampNeg (z.1 0 1)) kd) 1 (Int32.toNatClampNeg ((setI z 3 (Int32.toNatClampNeg (z.1 0 1)) kd).1 0 1)) (Int64.toUInt64 b)).1 0 1)) 0 1 (((setI (setF (setI z 3 (Int32.toNatClampNeg (z.1 0 1)) kd) 1 (Int32.toNatClampNeg ((setI z 3 (Int32.toNatClampNeg (z.1 0 1)) kd).1 0 1)) (Int64.toUInt64 b)) 4 (Int32.toNatClampNeg k) ((setF (setI z 3 (Int32.toNatClampNeg (z.1 0 1)) kd) 1 (Int32.toNatClampNeg ((setI z 3 (Int32.toNatClampNeg (z.1 0 1)) kd).1 0 1)) (Int64.toUInt64 b)).1 0 1)).1 0 1) + 1))) := by unfold sp_effect; rw [if_pos ⟨c3, c12, c20, c40, c49⟩]; rfl
            rw [e9]
            exact ⟨rfl, hR⟩
          · replace c49 := (cv_dcmp_l_le_n _ _).mp c49
            refine lv_iconst (v := (-1)) hx hb dX5_effect_52 (by decide) ?_
            refine mr_i S hM hr hlocks dX5_effect_53 ⟨Nat.le_of_ble_eq_true rfl, Nat.le_of_ble_eq_true rfl⟩ ?_
            have e9 : sp_effect z k kd b = ((-1), z) := by unfold sp_effect; rw [if_neg (fun q => q.2.2.2.2 c49)]
            rw [e9]
            exact ⟨rfl, hR⟩
      · skip
        refine lv_if_ne (tgt := 28) hx hb dX5_effect_23 (by decide) (fun h => absurd rfl h) (fun _ => ?_)
        refine lv_iconst (v := (-1)) hx hb dX5_effect_26 (by decide) ?_
        refine mr_i S hM hr hlocks dX5_effect_27 ⟨Nat.le_of_ble_eq_true rfl, Nat.le_of_ble_eq_true rfl⟩ ?_
        have e9 : sp_effect z k kd b = ((-1), z) := by unfold sp_effect; rw [if_neg (fun q => c20 q.2.2.1)]
        rw [e9]
        exact ⟨rfl, hR⟩
    · skip
      refine lv_if_eq (tgt := 26) hx hb dX5_effect_15 (by decide) (fun _ => ?_) (fun h => absurd (by decide) h)
      refine lv_iconst (v := (-1)) hx hb dX5_effect_26 (by decide) ?_
      refine mr_i S hM hr hlocks dX5_effect_27 ⟨Nat.le_of_ble_eq_true rfl, Nat.le_of_ble_eq_true rfl⟩ ?_
      have e9 : sp_effect z k kd b = ((-1), z) := by unfold sp_effect; rw [if_neg (fun q => c12 q.2.1)]
      rw [e9]
      exact ⟨rfl, hR⟩
  · skip
    refine lv_if_eq (tgt := 26) hx hb dX5_effect_6 (by decide) (fun _ => ?_) (fun h => absurd (by decide) h)
    refine lv_iconst (v := (-1)) hx hb dX5_effect_26 (by decide) ?_
    refine mr_i S hM hr hlocks dX5_effect_27 ⟨Nat.le_of_ble_eq_true rfl, Nat.le_of_ble_eq_true rfl⟩ ?_
    have e9 : sp_effect z k kd b = ((-1), z) := by unfold sp_effect; rw [if_neg (fun q => c3 q.1)]
    rw [e9]
    exact ⟨rfl, hR⟩
