set_option maxHeartbeats 4000000 in
set_option maxRecDepth 100000 in
theorem c_X4_play (l : Launch) (D : va_G) (cT : Nat → ClassId) {M : hmp} {fu fd : Nat → UInt64} {ad : Nat → Nat → Nat} {z : SG} {n : Nat} (hX : XS cT fu fd ad M z) (hI : INV n z) (hn : n < 512) (h nn : Int32) (sz : Nat) : Met l yX4_play (wz yX4_play cX4_play 4 (some .int)) ({ frames := 5, cells := 0, slots := 0, locals := 126 } : Room) (mP D cT [.ref (ad 0 0), .int h, .int nn] M sz) (mQi (fun rr MM => rr = (sp_play z h nn).1 ∧ ∃ ad1, ad1 0 0 = ad 0 0 ∧ XS cT fu fd ad1 MM (sp_play z h nn).2) D M sz) 0 0 (FA M sz) := by
  refine mk_m (by decide +kernel) (Nat.le_of_ble_eq_true rfl) ?_
  intro p e s m args below meth c S hK hsz hM hr hlocks hnm ls hl
  have hx := S.1
  have hb := S.2.1
  have hml := S.2.2.1
  have hown := S.2.2.2.1
  have hts := S.2.2.2.2
  have hl : lv_has ls 4 [(0, .ref (ad 0 0)), (1, .int h), (2, .int nn)] := hl
  have loop : inR h 4 → inR nn 65 → ∀ (k j : Nat) (zz : SG) (M1 : hmp) (H : Heap) (locs : List Loc), j + k = cl nn → zz.1 0 2 = 0 → INV (n + 1) zz → SB (64 * n + j) zz → ¬ zz.1 7 (cl h) = 0 → XS cT fu fd ad M1 zz → HM D (FA M sz) M1 s.heap H locs → (nI (j + (plz (cl h) k zz).1), failS (plz (cl h) k zz).2.2 (plz (cl h) k zz).2.1) = sp_play z h nn → ∀ ls, lv_has ls 4 [(3, .int (nI j)), (0, .ref (ad 0 0)), (1, .int h), (2, .int nn)] → W p l e ({ frames := 5, cells := 0, slots := 0, locals := 126 } : Room) s m args below meth c H locs 0 0 (MQ below (mQi (fun rr MM => rr = (sp_play z h nn).1 ∧ ∃ ad1, ad1 0 0 = ad 0 0 ∧ XS cT fu fd ad1 MM (sp_play z h nn).2) D M sz) args s 0 0 (FA M sz)) (F0 m 26 ls []) := by
    intro hh c22 k
    have hnn := in_nI c22 (by decide)
    have hnl := in_cl c22
    induction k with
    | zero =>
      intro j zz M1 H locs hj hf0 hIz hBz hset hX hM heq ls hl
      refine lv_iload_n hx hb dX4_play_26 rfl (lv_at hl 0 rfl) ?_
      refine lv_iload_n hx hb dX4_play_27 rfl (lv_at hl 3 rfl) ?_
      refine lv_icmp_ge (tgt := 60) hx hb dX4_play_28 (by decide) (fun _ => ?_) (fun h9 => absurd (show nn ≤ nI j by rw [hnn, ← hj]; exact Int32.le_refl _) h9)
      refine lv_iload_n hx hb dX4_play_60 rfl (lv_at hl 3 rfl) ?_
      refine mr_i S hM hr hlocks dX4_play_61 ⟨Nat.le_of_ble_eq_true rfl, Nat.le_of_ble_eq_true rfl⟩ ?_
      rw [← heq]
      exact ⟨by rw [show j + (plz (cl h) 0 zz).1 = cl nn from hj]; exact hnn, ad, rfl, by show XS cT fu fd ad M1 (setI zz 0 2 0); rw [setI_id hf0]; exact hX⟩
    | succ k ih =>
      intro j zz M1 H locs hj hf0 hIz hBz hset hX hM heq ls hl
      have hjn : ¬ nn ≤ nI j := by rw [hnn]; exact nI_ge (by omega) (by omega)
      refine lv_iload_n hx hb dX4_play_26 rfl (lv_at hl 0 rfl) ?_
      refine lv_iload_n hx hb dX4_play_27 rfl (lv_at hl 3 rfl) ?_
      refine lv_icmp_ge (tgt := 60) hx hb dX4_play_28 (by decide) (fun h9 => absurd h9 hjn) (fun _ => ?_)
      refine lv_aload_n hx hb dX4_play_31 rfl (lv_at hl 1 rfl) ?_
      refine lv_aload_n hx hb dX4_play_32 rfl (lv_at hl 1 rfl) ?_
      refine lv_aload_n hx hb dX4_play_33 rfl (lv_at hl 1 rfl) ?_
      refine hm_get S hK hM.pr cI4 (XS.c0 hX) 5 (by decide) w_1_46 rfl dX4_play_34 ?_
      refine lv_iload_n hx hb dX4_play_37 rfl (lv_at hl 2 rfl) ?_
      refine hx_hds S hK hM.pr hX hh dX4_play_38 (fun w => absurd w hset) (fun _ => ?_)
      refine mc_i hM (rVm (rest := [.ref (ad 0 0)]) S hK hM cI4 (XS.c0 hX) rfl (c_X4_step l D cT hX hIz hn (cl h) (in_cl hh) hset H.size) sm_X4_step w_S_8 w_2_45 ⟨Nat.le_of_ble_eq_true rfl, Nat.le_of_ble_eq_true rfl⟩ ⟨rfl, rfl⟩ rfl hl.1 rfl (Nat.le_of_ble_eq_true rfl) dX4_play_39 ⟨Nat.le_of_ble_eq_true rfl, Nat.le_of_ble_eq_true rfl⟩) (fun r1 M2 H locs hpr1 hM _ _ _ => ?_)
      by_cases hs : stW zz (cl h) = 0
      · rw [stW_ok hs] at hpr1
        obtain ⟨hw1, hX⟩ := hpr1
        subst hw1
        refine hm_put S hK hM cI4 (XS.c0 hX) 7 (by decide) w_1_48 rfl rfl rfl (Nat.le_of_ble_eq_true rfl) dX4_play_42 (fun H locs M3 hM3 hM => ?_)
        have hX := XS.f7 hX hM3
        rw [setI_id (z := stS zz (cl h)) (c := 0) (k := 2) (x := 0) hf0] at hX
        refine lv_aload_n hx hb dX4_play_45 rfl (lv_at hl 1 rfl) ?_
        refine hm_get S hK hM.pr cI4 (XS.c0 hX) 7 (by decide) w_1_48 rfl dX4_play_46 ?_
        refine lv_if_eq (tgt := 54) hx hb dX4_play_49 (by decide) (fun _ => ?_) (fun h9 => absurd hf0 h9)
        refine lv_iinc (v := (nI j) + 1) (lv' := [(3, .int ((nI j) + 1)), (0, .ref (ad 0 0)), (1, .int h), (2, .int nn)]) hx hb dX4_play_54 hl (k := 0) rfl (by rfl) (by decide) rfl (fun ls hl => ?_)
        refine lv_goto (tgt := 26) hx hb dX4_play_57 (by decide) ?_
        have hS := inv_stS hIz hBz (show 64 * n + j + 1 ≤ 64 * (n + 1) by omega) hn (in_cl hh) hset hs
        refine ih (j + 1) (stS zz (cl h)) _ _ _ (by omega) hf0 hS.1 hS.2 hset hX hM ?_ ls (by rw [← nI_1]; exact lv_sub hl [0, 1, 2, 3] rfl)
        rw [← heq, plz_ok hs, show j + 1 + (plz (cl h) k (stS zz (cl h))).1 = j + ((plz (cl h) k (stS zz (cl h))).1 + 1) by omega]
      · rw [stW_fail rfl hs] at hpr1
        obtain ⟨hw1, hX⟩ := hpr1
        subst hw1
        refine hm_put S hK hM cI4 (XS.c0 hX) 7 (by decide) w_1_48 rfl rfl rfl (Nat.le_of_ble_eq_true rfl) dX4_play_42 (fun H locs M4 hM4 hM => ?_)
        have hX := XS.f7 hX hM4
        refine lv_aload_n hx hb dX4_play_45 rfl (lv_at hl 1 rfl) ?_
        refine hm_get S hK hM.pr cI4 (XS.c0 hX) 7 (by decide) w_1_48 rfl dX4_play_46 ?_
        refine lv_if_eq (tgt := 54) hx hb dX4_play_49 (by decide) (fun h9 => absurd (show stW zz (cl h) = 0 from h9) hs) (fun _ => ?_)
        refine lv_iload_n hx hb dX4_play_52 rfl (lv_at hl 0 rfl) ?_
        refine mr_i S hM hr hlocks dX4_play_53 ⟨Nat.le_of_ble_eq_true rfl, Nat.le_of_ble_eq_true rfl⟩ ?_
        rw [← heq, plz_no hs]
        exact ⟨rfl, ad, rfl, hX⟩
  refine lv_aload_n hx hb dX4_play_0 rfl (lv_at hl 0 rfl) ?_
  refine lv_iload_n hx hb dX4_play_1 rfl (lv_at hl 1 rfl) ?_
  refine pc_b (rV (rest := []) S hK hM.pr cI4 (XS.c0 hX) rfl (c_X4_isSetHead l D cT s.heap hM.pr hX h) sm_X4_isSetHead w_S_7 w_2_41 ⟨Nat.le_of_ble_eq_true rfl, Nat.le_of_ble_eq_true rfl⟩ ⟨rfl, rfl⟩ rfl hl.1 rfl (Nat.le_of_ble_eq_true rfl) dX4_play_2 ⟨Nat.le_of_ble_eq_true rfl, Nat.le_of_ble_eq_true rfl⟩) (fun c2 => ?_) (fun c2 => ?_)
  · skip
    refine lv_if_eq (tgt := 17) hx hb dX4_play_5 (by decide) (fun h => absurd h (by decide)) (fun _ => ?_)
    refine lv_iload_n hx hb dX4_play_8 rfl (lv_at hl 2 rfl) ?_
    refine lv_bipush (v := 65) hx hb dX4_play_9 (by decide) ?_
    refine pc_b (rS (rest := []) S hK (c_X4_isBelow l D cT s.heap nn 65 (n := 65) (by decide) rfl) sm_X4_isBelow w_1_77 ⟨Nat.le_of_ble_eq_true rfl, Nat.le_of_ble_eq_true rfl⟩ ⟨rfl, rfl⟩ rfl hl.1 rfl (Nat.le_of_ble_eq_true rfl) dX4_play_11 ⟨Nat.le_of_ble_eq_true rfl, Nat.le_of_ble_eq_true rfl⟩) (fun c11 => ?_) (fun c11 => ?_)
    · skip
      refine lv_if_ne (tgt := 19) hx hb dX4_play_14 (by decide) (fun _ => ?_) (fun h => absurd h (by decide))
      refine lv_aload_n hx hb dX4_play_19 rfl (lv_at hl 0 rfl) ?_
      refine lv_iconst (v := 0) hx hb dX4_play_20 (by decide) ?_
      refine hm_put S hK hM cI4 (XS.c0 hX) 7 (by decide) w_1_48 rfl rfl rfl (Nat.le_of_ble_eq_true rfl) dX4_play_21 (fun H locs M5 hM5 hM => ?_)
      have hX := XS.f7 hX hM5
      refine lv_iconst (v := 0) hx hb dX4_play_24 (by decide) ?_
      refine lv_istore_n (lv' := [(3, .int 0), (0, .ref (ad 0 0)), (1, .int h), (2, .int nn)]) hx hb dX4_play_25 rfl hl (by decide) rfl (fun ls hl => ?_)
      have hc11 := in_cl c11
      refine loop c2.1 c11 (cl nn) 0 (failS z 0) _ _ _ (by omega) rfl ((hI.mono (Nat.le_succ n)).fail 0) hI.sb c2.2 hX hM ?_ ls (lv_sub hl [0, 1, 2, 3] rfl)
      rw [Nat.zero_add]; exact (if_pos ⟨c2.1, c2.2, c11⟩).symm
    · skip
      refine lv_if_ne (tgt := 19) hx hb dX4_play_14 (by decide) (fun h => absurd rfl h) (fun _ => ?_)
      refine lv_iconst (v := (-1)) hx hb dX4_play_17 (by decide) ?_
      refine mr_i S hM hr hlocks dX4_play_18 ⟨Nat.le_of_ble_eq_true rfl, Nat.le_of_ble_eq_true rfl⟩ ?_
      have e9 : sp_play z h nn = (-1, z) := if_neg (fun q => c11 q.2.2)
      rw [e9]
      exact ⟨rfl, ad, rfl, hX⟩
  · skip
    refine lv_if_eq (tgt := 17) hx hb dX4_play_5 (by decide) (fun _ => ?_) (fun h => absurd (by decide) h)
    refine lv_iconst (v := (-1)) hx hb dX4_play_17 (by decide) ?_
    refine mr_i S hM hr hlocks dX4_play_18 ⟨Nat.le_of_ble_eq_true rfl, Nat.le_of_ble_eq_true rfl⟩ ?_
    have e9 : sp_play z h nn = (-1, z) := if_neg (fun q => c2 ⟨q.1, q.2.1⟩)
    rw [e9]
    exact ⟨rfl, ad, rfl, hX⟩
/-- a world made from another: these cells, all but the first of them fresh, the rest as it was -/
def BG (M0 M : hmp) (L : List (Nat × va_E)) : Prop := BL M L ∧ (∀ x, (∀ y ∈ L, x ≠ y.1) → M x = M0 x) ∧ ∀ y ∈ L.drop 1, M0 y.1 = none
theorem BG.one {M : hmp} {q : Nat} {e : va_E} (h : M q = some e) : BG M M [(q, e)] := ⟨BL.one h, fun _ _ => rfl, fun y hy => absurd hy List.not_mem_nil⟩
theorem BG.get {M0 M : hmp} {L : List (Nat × va_E)} {q : Nat} {e : va_E} (h : BG M0 M L) (i : Nat) (hi : L[i]? = some (q, e)) : M q = some e := h.1.get i hi
theorem BG.new {M0 M M1 : hmp} {L : List (Nat × va_E)} {q : Nat} {e : va_E} (h : BG M0 M L) (h0 : 0 < L.length) (hq : M q = none) (hM : M1 = va_up M q (some e)) : BG M0 M1 (L ++ [(q, e)]) := by
  refine ⟨h.1.new hq hM, fun x hx => ?_, fun y hy => ?_⟩
  · rw [hM, va_up_ne _ _ (hx (q, e) (List.mem_append_right _ (List.mem_singleton.mpr rfl)))]
    exact h.2.1 x (fun y hy => hx y (List.mem_append_left _ hy))
  · rw [List.drop_append_of_le_length h0] at hy
    rcases List.mem_append.mp hy with hy | hy
    · exact h.2.2 y hy
    · rw [List.mem_singleton.mp hy, ← h.2.1 q (fun y hy w => by have := h.1.1 y hy; rw [← w, hq] at this; cases this)]
      exact hq
theorem BG.set {M0 M M1 : hmp} {L : List (Nat × va_E)} {q : Nat} {e e' : va_E} (h : BG M0 M L) (i : Nat) (hi : L[i]? = some (q, e)) (hM : M1 = va_up M q (some e')) : BG M0 M1 (L.set i (q, e')) := by
  have hil := (List.getElem?_eq_some_iff.mp hi).1
  have hm : (L.set i (q, e')).map Prod.fst = L.map Prod.fst := by
    rw [List.map_set]
    refine List.ext_getElem? (fun j => ?_)
    by_cases c : i = j
    · subst c
      rw [List.getElem?_set_self (by rw [List.length_map]; exact hil), List.getElem?_map, hi]; rfl
    · rw [List.getElem?_set_ne c]
  refine ⟨h.1.set i hi hM, fun x hx => ?_, fun y hy => ?_⟩
  · rw [hM, va_up_ne _ _ (hx (q, e') (List.mem_of_getElem? (List.getElem?_set_self hil)))]
    refine h.2.1 x (fun y hy => ?_)
    have : y.1 ∈ (L.set i (q, e')).map Prod.fst := by rw [hm]; exact List.mem_map_of_mem hy
    obtain ⟨w, hw, e⟩ := List.mem_map.mp this
    rw [← e]; exact hx w hw
  · have h1 : y.1 ∈ ((L.set i (q, e')).drop 1).map Prod.fst := List.mem_map_of_mem hy
    rw [List.map_drop, hm, ← List.map_drop] at h1
    obtain ⟨w, hw, e⟩ := List.mem_map.mp h1
    rw [← e]; exact h.2.2 w hw
set_option maxHeartbeats 4000000 in
set_option maxRecDepth 100000 in
theorem c_X2_init (l : Launch) (D : va_G) (cT : Nat → ClassId) {M : hmp} (o : Nat) (ho : M o = some (.inr (2, [.null, .null]))) (sz : Nat) : Met l yX2_init (wz yX2_init cX2_init 4 none) ({ frames := 1, cells := 2, slots := 20, locals := 24 } : Room) (mP D cT [.ref o] M sz) (mQv (fun MM => ∃ ua da fu fd, BG M MM [(o, (.inr (2, [.ref ua, .ref da]))), (ua, (.inl (cT 0, 10, rD fu))), (da, (.inl (cT 0, 10, rD fd)))] ∧ (∀ i, i < 10 → fu i = upf i) ∧ ∀ i, i < 10 → fd i = dnf i) D M sz) 2 20 (FA M sz) := by
  refine mk_m (by decide +kernel) (Nat.le_of_ble_eq_true rfl) ?_
  intro p e s m args below meth c S hK hsz hM hr hlocks hnm ls hl
  have hx := S.1
  have hb := S.2.1
  have hml := S.2.2.1
  have hown := S.2.2.2.1
  have hts := S.2.2.2.2
  have hl : lv_has ls 4 [(0, .ref o)] := hl
  have hB := BG.one ho
  refine lv_aload_n hx hb dX2_init_0 rfl (lv_at hl 0 rfl) ?_
  refine W.objInit hx hb hown (hts _ w_1_23) (hts _ w_1_16) (hts _ w_1_17) rfl (hl.1.trans hml.symm) rfl dX2_init_1 (Nat.le_of_ble_eq_true rfl) (Nat.le_of_ble_eq_true rfl) ?_
  refine W.eq (g2 := F0 m 4 ls []) rfl ?_
  refine lv_aload_n hx hb dX2_init_4 rfl (lv_at hl 0 rfl) ?_
  refine lv_bipush (v := 10) hx hb dX2_init_5 (by decide) ?_
  refine hm_newa S hK hM 0 (atype := .double) (ty := .double) w_1_32 rfl rfl (fun _ _ h => h) (n := 10) (N' := 10) (a0 := (10, rD (fun _ => 0))) (fun _ => rfl) (by decide) (by decide) (Nat.le_of_ble_eq_true rfl) (Nat.le_of_ble_eq_true rfl) (Nat.le_of_ble_eq_true rfl) dX2_init_7 (fun q1 H M2 hnq1 hM2 hM => ?_)
  have hB : BG M M2 [(o, (.inr (2, [.null, .null]))), (q1, (.inl (cT 0, 10, rD (fun _ => 0))))] := hB.new (Nat.zero_lt_succ _) hnq1 hM2
  refine hm_putF S hK hM cI2 (hB.get 0 rfl) 0 (by decide) w_1_25 rfl hnm rfl rfl rfl (Nat.le_of_ble_eq_true rfl) dX2_init_9 (fun H locs M3 hM3 hM => ?_)
  have hB : BG M M3 [(o, (.inr (2, [.ref q1, .null]))), (q1, (.inl (cT 0, 10, rD (fun _ => 0))))] := hB.set 0 rfl hM3
  refine lv_aload_n hx hb dX2_init_12 rfl (lv_at hl 0 rfl) ?_
  refine lv_bipush (v := 10) hx hb dX2_init_13 (by decide) ?_
  refine hm_newa S hK hM 0 (atype := .double) (ty := .double) w_1_32 rfl rfl (fun _ _ h => h) (n := 10) (N' := 10) (a0 := (10, rD (fun _ => 0))) (fun _ => rfl) (by decide) (by decide) (Nat.le_of_ble_eq_true rfl) (Nat.le_of_ble_eq_true rfl) (Nat.le_of_ble_eq_true rfl) dX2_init_15 (fun q4 H M5 hnq4 hM5 hM => ?_)
  have hB : BG M M5 [(o, (.inr (2, [.ref q1, .null]))), (q1, (.inl (cT 0, 10, rD (fun _ => 0)))), (q4, (.inl (cT 0, 10, rD (fun _ => 0))))] := hB.new (Nat.zero_lt_succ _) hnq4 hM5
  refine hm_putF S hK hM cI2 (hB.get 0 rfl) 1 (by decide) w_1_26 rfl hnm rfl rfl rfl (Nat.le_of_ble_eq_true rfl) dX2_init_17 (fun H locs M6 hM6 hM => ?_)
  have hB : BG M M6 [(o, (.inr (2, [.ref q1, .ref q4]))), (q1, (.inl (cT 0, 10, rD (fun _ => 0)))), (q4, (.inl (cT 0, 10, rD (fun _ => 0))))] := hB.set 0 rfl hM6
  refine lv_ldc2d hx hb hown (hts _ w_1_24) dX2_init_20 ?_
  refine lv_topd (fun z7 hz7 => ?_)
  have hz7 : z7 = (upf 0) := by rw [hz7]; exact upf_0.symm
  subst hz7
  refine lv_dstore_n (lv' := [(1, .double (upf 0)), (0, .ref o)]) hx hb dX2_init_23 rfl hl (by decide) rfl (fun ls hl => ?_)
  refine lv_iconst (v := 0) hx hb dX2_init_24 (by decide) ?_
  refine lv_istore_n (lv' := [(3, .int 0), (1, .double (upf 0)), (0, .ref o)]) hx hb dX2_init_25 rfl hl (by decide) rfl (fun ls hl => ?_)
  refine lv_iload_n hx hb dX2_init_26 rfl (lv_at hl 0 rfl) ?_
  refine lv_bipush (v := 10) hx hb dX2_init_27 (by decide) ?_
  refine lv_icmp_ge (tgt := 62) hx hb dX2_init_29 (by decide) (fun h => absurd h (by decide)) (fun _ => ?_)
  refine lv_iload_n hx hb dX2_init_32 rfl (lv_at hl 0 rfl) ?_
  refine lv_if_le (tgt := 40) hx hb dX2_init_33 (by decide) (fun _ => ?_) (fun h => absurd (by decide) h)
  refine lv_aload_n hx hb dX2_init_40 rfl (lv_at hl 2 rfl) ?_
  refine hm_get S hK hM.pr cI2 (hB.get 0 rfl) 0 (by decide) w_1_25 rfl dX2_init_41 ?_
  refine lv_iload_n hx hb dX2_init_44 rfl (lv_at hl 0 rfl) ?_
  refine lv_dload_n hx hb dX2_init_45 rfl (lv_at hl 1 rfl) ?_
  refine hm_dast S hK hM (hB.get 1 rfl) (vp_in_nI (n := 0) (by decide) (by decide)) dX2_init_46 (fun H locs M8 hM8 hM => ?_)
  have hB : BG M M8 [(o, (.inr (2, [.ref q1, .ref q4]))), (q1, (.inl (cT 0, 10, rD (vf_upd (fun _ => 0) 0 (upf 0))))), (q4, (.inl (cT 0, 10, rD (fun _ => 0))))] := hB.set 1 rfl hM8
  refine lv_aload_n hx hb dX2_init_47 rfl (lv_at hl 2 rfl) ?_
  refine hm_get S hK hM.pr cI2 (hB.get 0 rfl) 1 (by decide) w_1_26 rfl dX2_init_48 ?_
  refine lv_iload_n hx hb dX2_init_51 rfl (lv_at hl 0 rfl) ?_
  refine lv_dconst1 hx hb dX2_init_52 ?_
  refine lv_dload_n hx hb dX2_init_53 rfl (lv_at hl 1 rfl) ?_
  refine lv_ddiv hx hb dX2_init_54 (by rw [dnf_inv 0 (by decide)]; exact n64_fin (dnf_P (by decide)).fin) ?_
  refine lv_topd (fun z9 hz9 => ?_)
  have hz9 : z9 = (dnf 0) := by rw [hz9]; exact dnf_inv 0 (by decide)
  subst hz9
  refine hm_dast S hK hM (hB.get 2 rfl) (vp_in_nI (n := 0) (by decide) (by decide)) dX2_init_55 (fun H locs M10 hM10 hM => ?_)
  have hB : BG M M10 [(o, (.inr (2, [.ref q1, .ref q4]))), (q1, (.inl (cT 0, 10, rD (vf_upd (fun _ => 0) 0 (upf 0))))), (q4, (.inl (cT 0, 10, rD (vf_upd (fun _ => 0) 0 (dnf 0)))))] := hB.set 2 rfl hM10
  refine lv_iinc (v := 1) (lv' := [(3, .int 1), (1, .double (upf 0)), (0, .ref o)]) hx hb dX2_init_56 hl (k := 0) rfl (by rfl) (by decide) rfl (fun ls hl => ?_)
  refine lv_goto (tgt := 26) hx hb dX2_init_59 (by decide) ?_
  refine lv_iload_n hx hb dX2_init_26 rfl (lv_at hl 0 rfl) ?_
  refine lv_bipush (v := 10) hx hb dX2_init_27 (by decide) ?_
  refine lv_icmp_ge (tgt := 62) hx hb dX2_init_29 (by decide) (fun h => absurd h (by decide)) (fun _ => ?_)
  refine lv_iload_n hx hb dX2_init_32 rfl (lv_at hl 0 rfl) ?_
  refine lv_if_le (tgt := 40) hx hb dX2_init_33 (by decide) (fun h => absurd h (by decide)) (fun _ => ?_)
  refine lv_dload_n hx hb dX2_init_36 rfl (lv_at hl 1 rfl) ?_
  refine lv_dload_n hx hb dX2_init_37 rfl (lv_at hl 1 rfl) ?_
  refine lv_dmul hx hb dX2_init_38 (by rw [upf_sq 0 (by decide)]; exact n64_fin (upf_P (by decide)).fin) ?_
  refine lv_topd (fun z11 hz11 => ?_)
  have hz11 : z11 = (upf 1) := by rw [hz11]; exact upf_sq 0 (by decide)
  subst hz11
  refine lv_dstore_n (lv' := [(1, .double (upf 1)), (3, .int 1), (0, .ref o)]) hx hb dX2_init_39 rfl hl (by decide) rfl (fun ls hl => ?_)
  refine lv_aload_n hx hb dX2_init_40 rfl (lv_at hl 2 rfl) ?_
  refine hm_get S hK hM.pr cI2 (hB.get 0 rfl) 0 (by decide) w_1_25 rfl dX2_init_41 ?_
  refine lv_iload_n hx hb dX2_init_44 rfl (lv_at hl 1 rfl) ?_
  refine lv_dload_n hx hb dX2_init_45 rfl (lv_at hl 0 rfl) ?_
  refine hm_dast S hK hM (hB.get 1 rfl) (vp_in_nI (n := 1) (by decide) (by decide)) dX2_init_46 (fun H locs M12 hM12 hM => ?_)
  have hB : BG M M12 [(o, (.inr (2, [.ref q1, .ref q4]))), (q1, (.inl (cT 0, 10, rD (vf_upd (vf_upd (fun _ => 0) 0 (upf 0)) 1 (upf 1))))), (q4, (.inl (cT 0, 10, rD (vf_upd (fun _ => 0) 0 (dnf 0)))))] := hB.set 1 rfl hM12
  refine lv_aload_n hx hb dX2_init_47 rfl (lv_at hl 2 rfl) ?_
  refine hm_get S hK hM.pr cI2 (hB.get 0 rfl) 1 (by decide) w_1_26 rfl dX2_init_48 ?_
  refine lv_iload_n hx hb dX2_init_51 rfl (lv_at hl 1 rfl) ?_
  refine lv_dconst1 hx hb dX2_init_52 ?_
  refine lv_dload_n hx hb dX2_init_53 rfl (lv_at hl 0 rfl) ?_
  refine lv_ddiv hx hb dX2_init_54 (by rw [dnf_inv 1 (by decide)]; exact n64_fin (dnf_P (by decide)).fin) ?_
  refine lv_topd (fun z13 hz13 => ?_)
  have hz13 : z13 = (dnf 1) := by rw [hz13]; exact dnf_inv 1 (by decide)
  subst hz13
  refine hm_dast S hK hM (hB.get 2 rfl) (vp_in_nI (n := 1) (by decide) (by decide)) dX2_init_55 (fun H locs M14 hM14 hM => ?_)
  have hB : BG M M14 [(o, (.inr (2, [.ref q1, .ref q4]))), (q1, (.inl (cT 0, 10, rD (vf_upd (vf_upd (fun _ => 0) 0 (upf 0)) 1 (upf 1))))), (q4, (.inl (cT 0, 10, rD (vf_upd (vf_upd (fun _ => 0) 0 (dnf 0)) 1 (dnf 1)))))] := hB.set 2 rfl hM14
  refine lv_iinc (v := 2) (lv' := [(3, .int 2), (1, .double (upf 1)), (0, .ref o)]) hx hb dX2_init_56 hl (k := 1) rfl (by rfl) (by decide) rfl (fun ls hl => ?_)
  refine lv_goto (tgt := 26) hx hb dX2_init_59 (by decide) ?_
  refine lv_iload_n hx hb dX2_init_26 rfl (lv_at hl 0 rfl) ?_
  refine lv_bipush (v := 10) hx hb dX2_init_27 (by decide) ?_
  refine lv_icmp_ge (tgt := 62) hx hb dX2_init_29 (by decide) (fun h => absurd h (by decide)) (fun _ => ?_)
  refine lv_iload_n hx hb dX2_init_32 rfl (lv_at hl 0 rfl) ?_
  refine lv_if_le (tgt := 40) hx hb dX2_init_33 (by decide) (fun h => absurd h (by decide)) (fun _ => ?_)
  refine lv_dload_n hx hb dX2_init_36 rfl (lv_at hl 1 rfl) ?_
  refine lv_dload_n hx hb dX2_init_37 rfl (lv_at hl 1 rfl) ?_
  refine lv_dmul hx hb dX2_init_38 (by rw [upf_sq 1 (by decide)]; exact n64_fin (upf_P (by decide)).fin) ?_
  refine lv_topd (fun z15 hz15 => ?_)
  have hz15 : z15 = (upf 2) := by rw [hz15]; exact upf_sq 1 (by decide)
  subst hz15
  refine lv_dstore_n (lv' := [(1, .double (upf 2)), (3, .int 2), (0, .ref o)]) hx hb dX2_init_39 rfl hl (by decide) rfl (fun ls hl => ?_)
  refine lv_aload_n hx hb dX2_init_40 rfl (lv_at hl 2 rfl) ?_
  refine hm_get S hK hM.pr cI2 (hB.get 0 rfl) 0 (by decide) w_1_25 rfl dX2_init_41 ?_
  refine lv_iload_n hx hb dX2_init_44 rfl (lv_at hl 1 rfl) ?_
  refine lv_dload_n hx hb dX2_init_45 rfl (lv_at hl 0 rfl) ?_
  refine hm_dast S hK hM (hB.get 1 rfl) (vp_in_nI (n := 2) (by decide) (by decide)) dX2_init_46 (fun H locs M16 hM16 hM => ?_)
  have hB : BG M M16 [(o, (.inr (2, [.ref q1, .ref q4]))), (q1, (.inl (cT 0, 10, rD (vf_upd (vf_upd (vf_upd (fun _ => 0) 0 (upf 0)) 1 (upf 1)) 2 (upf 2))))), (q4, (.inl (cT 0, 10, rD (vf_upd (vf_upd (fun _ => 0) 0 (dnf 0)) 1 (dnf 1)))))] := hB.set 1 rfl hM16
  refine lv_aload_n hx hb dX2_init_47 rfl (lv_at hl 2 rfl) ?_
  refine hm_get S hK hM.pr cI2 (hB.get 0 rfl) 1 (by decide) w_1_26 rfl dX2_init_48 ?_
  refine lv_iload_n hx hb dX2_init_51 rfl (lv_at hl 1 rfl) ?_
  refine lv_dconst1 hx hb dX2_init_52 ?_
  refine lv_dload_n hx hb dX2_init_53 rfl (lv_at hl 0 rfl) ?_
  refine lv_ddiv hx hb dX2_init_54 (by rw [dnf_inv 2 (by decide)]; exact n64_fin (dnf_P (by decide)).fin) ?_
  refine lv_topd (fun z17 hz17 => ?_)
  have hz17 : z17 = (dnf 2) := by rw [hz17]; exact dnf_inv 2 (by decide)
  subst hz17
  refine hm_dast S hK hM (hB.get 2 rfl) (vp_in_nI (n := 2) (by decide) (by decide)) dX2_init_55 (fun H locs M18 hM18 hM => ?_)
  have hB : BG M M18 [(o, (.inr (2, [.ref q1, .ref q4]))), (q1, (.inl (cT 0, 10, rD (vf_upd (vf_upd (vf_upd (fun _ => 0) 0 (upf 0)) 1 (upf 1)) 2 (upf 2))))), (q4, (.inl (cT 0, 10, rD (vf_upd (vf_upd (vf_upd (fun _ => 0) 0 (dnf 0)) 1 (dnf 1)) 2 (dnf 2)))))] := hB.set 2 rfl hM18
  refine lv_iinc (v := 3) (lv' := [(3, .int 3), (1, .double (upf 2)), (0, .ref o)]) hx hb dX2_init_56 hl (k := 1) rfl (by rfl) (by decide) rfl (fun ls hl => ?_)
  refine lv_goto (tgt := 26) hx hb dX2_init_59 (by decide) ?_
  refine lv_iload_n hx hb dX2_init_26 rfl (lv_at hl 0 rfl) ?_
  refine lv_bipush (v := 10) hx hb dX2_init_27 (by decide) ?_
  refine lv_icmp_ge (tgt := 62) hx hb dX2_init_29 (by decide) (fun h => absurd h (by decide)) (fun _ => ?_)
  refine lv_iload_n hx hb dX2_init_32 rfl (lv_at hl 0 rfl) ?_
  refine lv_if_le (tgt := 40) hx hb dX2_init_33 (by decide) (fun h => absurd h (by decide)) (fun _ => ?_)
  refine lv_dload_n hx hb dX2_init_36 rfl (lv_at hl 1 rfl) ?_
  refine lv_dload_n hx hb dX2_init_37 rfl (lv_at hl 1 rfl) ?_
  refine lv_dmul hx hb dX2_init_38 (by rw [upf_sq 2 (by decide)]; exact n64_fin (upf_P (by decide)).fin) ?_
  refine lv_topd (fun z19 hz19 => ?_)
  have hz19 : z19 = (upf 3) := by rw [hz19]; exact upf_sq 2 (by decide)
  subst hz19
  refine lv_dstore_n (lv' := [(1, .double (upf 3)), (3, .int 3), (0, .ref o)]) hx hb dX2_init_39 rfl hl (by decide) rfl (fun ls hl => ?_)
  refine lv_aload_n hx hb dX2_init_40 rfl (lv_at hl 2 rfl) ?_
  refine hm_get S hK hM.pr cI2 (hB.get 0 rfl) 0 (by decide) w_1_25 rfl dX2_init_41 ?_
  refine lv_iload_n hx hb dX2_init_44 rfl (lv_at hl 1 rfl) ?_
  refine lv_dload_n hx hb dX2_init_45 rfl (lv_at hl 0 rfl) ?_
  refine hm_dast S hK hM (hB.get 1 rfl) (vp_in_nI (n := 3) (by decide) (by decide)) dX2_init_46 (fun H locs M20 hM20 hM => ?_)
  have hB : BG M M20 [(o, (.inr (2, [.ref q1, .ref q4]))), (q1, (.inl (cT 0, 10, rD (vf_upd (vf_upd (vf_upd (vf_upd (fun _ => 0) 0 (upf 0)) 1 (upf 1)) 2 (upf 2)) 3 (upf 3))))), (q4, (.inl (cT 0, 10, rD (vf_upd (vf_upd (vf_upd (fun _ => 0) 0 (dnf 0)) 1 (dnf 1)) 2 (dnf 2)))))] := hB.set 1 rfl hM20
  refine lv_aload_n hx hb dX2_init_47 rfl (lv_at hl 2 rfl) ?_
  refine hm_get S hK hM.pr cI2 (hB.get 0 rfl) 1 (by decide) w_1_26 rfl dX2_init_48 ?_
  refine lv_iload_n hx hb dX2_init_51 rfl (lv_at hl 1 rfl) ?_
  refine lv_dconst1 hx hb dX2_init_52 ?_
  refine lv_dload_n hx hb dX2_init_53 rfl (lv_at hl 0 rfl) ?_
  refine lv_ddiv hx hb dX2_init_54 (by rw [dnf_inv 3 (by decide)]; exact n64_fin (dnf_P (by decide)).fin) ?_
  refine lv_topd (fun z21 hz21 => ?_)
  have hz21 : z21 = (dnf 3) := by rw [hz21]; exact dnf_inv 3 (by decide)
  subst hz21
  refine hm_dast S hK hM (hB.get 2 rfl) (vp_in_nI (n := 3) (by decide) (by decide)) dX2_init_55 (fun H locs M22 hM22 hM => ?_)
  have hB : BG M M22 [(o, (.inr (2, [.ref q1, .ref q4]))), (q1, (.inl (cT 0, 10, rD (vf_upd (vf_upd (vf_upd (vf_upd (fun _ => 0) 0 (upf 0)) 1 (upf 1)) 2 (upf 2)) 3 (upf 3))))), (q4, (.inl (cT 0, 10, rD (vf_upd (vf_upd (vf_upd (vf_upd (fun _ => 0) 0 (dnf 0)) 1 (dnf 1)) 2 (dnf 2)) 3 (dnf 3)))))] := hB.set 2 rfl hM22
  refine lv_iinc (v := 4) (lv' := [(3, .int 4), (1, .double (upf 3)), (0, .ref o)]) hx hb dX2_init_56 hl (k := 1) rfl (by rfl) (by decide) rfl (fun ls hl => ?_)
  refine lv_goto (tgt := 26) hx hb dX2_init_59 (by decide) ?_
  refine lv_iload_n hx hb dX2_init_26 rfl (lv_at hl 0 rfl) ?_
  refine lv_bipush (v := 10) hx hb dX2_init_27 (by decide) ?_
  refine lv_icmp_ge (tgt := 62) hx hb dX2_init_29 (by decide) (fun h => absurd h (by decide)) (fun _ => ?_)
  refine lv_iload_n hx hb dX2_init_32 rfl (lv_at hl 0 rfl) ?_
  refine lv_if_le (tgt := 40) hx hb dX2_init_33 (by decide) (fun h => absurd h (by decide)) (fun _ => ?_)
  refine lv_dload_n hx hb dX2_init_36 rfl (lv_at hl 1 rfl) ?_
  refine lv_dload_n hx hb dX2_init_37 rfl (lv_at hl 1 rfl) ?_
  refine lv_dmul hx hb dX2_init_38 (by rw [upf_sq 3 (by decide)]; exact n64_fin (upf_P (by decide)).fin) ?_
  refine lv_topd (fun z23 hz23 => ?_)
  have hz23 : z23 = (upf 4) := by rw [hz23]; exact upf_sq 3 (by decide)
  subst hz23
  refine lv_dstore_n (lv' := [(1, .double (upf 4)), (3, .int 4), (0, .ref o)]) hx hb dX2_init_39 rfl hl (by decide) rfl (fun ls hl => ?_)
  refine lv_aload_n hx hb dX2_init_40 rfl (lv_at hl 2 rfl) ?_
  refine hm_get S hK hM.pr cI2 (hB.get 0 rfl) 0 (by decide) w_1_25 rfl dX2_init_41 ?_
  refine lv_iload_n hx hb dX2_init_44 rfl (lv_at hl 1 rfl) ?_
  refine lv_dload_n hx hb dX2_init_45 rfl (lv_at hl 0 rfl) ?_
  refine hm_dast S hK hM (hB.get 1 rfl) (vp_in_nI (n := 4) (by decide) (by decide)) dX2_init_46 (fun H locs M24 hM24 hM => ?_)
  have hB : BG M M24 [(o, (.inr (2, [.ref q1, .ref q4]))), (q1, (.inl (cT 0, 10, rD (vf_upd (vf_upd (vf_upd (vf_upd (vf_upd (fun _ => 0) 0 (upf 0)) 1 (upf 1)) 2 (upf 2)) 3 (upf 3)) 4 (upf 4))))), (q4, (.inl (cT 0, 10, rD (vf_upd (vf_upd (vf_upd (vf_upd (fun _ => 0) 0 (dnf 0)) 1 (dnf 1)) 2 (dnf 2)) 3 (dnf 3)))))] := hB.set 1 rfl hM24
  refine lv_aload_n hx hb dX2_init_47 rfl (lv_at hl 2 rfl) ?_
  refine hm_get S hK hM.pr cI2 (hB.get 0 rfl) 1 (by decide) w_1_26 rfl dX2_init_48 ?_
  refine lv_iload_n hx hb dX2_init_51 rfl (lv_at hl 1 rfl) ?_
  refine lv_dconst1 hx hb dX2_init_52 ?_
  refine lv_dload_n hx hb dX2_init_53 rfl (lv_at hl 0 rfl) ?_
  refine lv_ddiv hx hb dX2_init_54 (by rw [dnf_inv 4 (by decide)]; exact n64_fin (dnf_P (by decide)).fin) ?_
  refine lv_topd (fun z25 hz25 => ?_)
  have hz25 : z25 = (dnf 4) := by rw [hz25]; exact dnf_inv 4 (by decide)
  subst hz25
  refine hm_dast S hK hM (hB.get 2 rfl) (vp_in_nI (n := 4) (by decide) (by decide)) dX2_init_55 (fun H locs M26 hM26 hM => ?_)
  have hB : BG M M26 [(o, (.inr (2, [.ref q1, .ref q4]))), (q1, (.inl (cT 0, 10, rD (vf_upd (vf_upd (vf_upd (vf_upd (vf_upd (fun _ => 0) 0 (upf 0)) 1 (upf 1)) 2 (upf 2)) 3 (upf 3)) 4 (upf 4))))), (q4, (.inl (cT 0, 10, rD (vf_upd (vf_upd (vf_upd (vf_upd (vf_upd (fun _ => 0) 0 (dnf 0)) 1 (dnf 1)) 2 (dnf 2)) 3 (dnf 3)) 4 (dnf 4)))))] := hB.set 2 rfl hM26
  refine lv_iinc (v := 5) (lv' := [(3, .int 5), (1, .double (upf 4)), (0, .ref o)]) hx hb dX2_init_56 hl (k := 1) rfl (by rfl) (by decide) rfl (fun ls hl => ?_)
  refine lv_goto (tgt := 26) hx hb dX2_init_59 (by decide) ?_
  refine lv_iload_n hx hb dX2_init_26 rfl (lv_at hl 0 rfl) ?_
  refine lv_bipush (v := 10) hx hb dX2_init_27 (by decide) ?_
  refine lv_icmp_ge (tgt := 62) hx hb dX2_init_29 (by decide) (fun h => absurd h (by decide)) (fun _ => ?_)
  refine lv_iload_n hx hb dX2_init_32 rfl (lv_at hl 0 rfl) ?_
  refine lv_if_le (tgt := 40) hx hb dX2_init_33 (by decide) (fun h => absurd h (by decide)) (fun _ => ?_)
  refine lv_dload_n hx hb dX2_init_36 rfl (lv_at hl 1 rfl) ?_
  refine lv_dload_n hx hb dX2_init_37 rfl (lv_at hl 1 rfl) ?_
  refine lv_dmul hx hb dX2_init_38 (by rw [upf_sq 4 (by decide)]; exact n64_fin (upf_P (by decide)).fin) ?_
  refine lv_topd (fun z27 hz27 => ?_)
  have hz27 : z27 = (upf 5) := by rw [hz27]; exact upf_sq 4 (by decide)
  subst hz27
  refine lv_dstore_n (lv' := [(1, .double (upf 5)), (3, .int 5), (0, .ref o)]) hx hb dX2_init_39 rfl hl (by decide) rfl (fun ls hl => ?_)
  refine lv_aload_n hx hb dX2_init_40 rfl (lv_at hl 2 rfl) ?_
  refine hm_get S hK hM.pr cI2 (hB.get 0 rfl) 0 (by decide) w_1_25 rfl dX2_init_41 ?_
  refine lv_iload_n hx hb dX2_init_44 rfl (lv_at hl 1 rfl) ?_
  refine lv_dload_n hx hb dX2_init_45 rfl (lv_at hl 0 rfl) ?_
  refine hm_dast S hK hM (hB.get 1 rfl) (vp_in_nI (n := 5) (by decide) (by decide)) dX2_init_46 (fun H locs M28 hM28 hM => ?_)
  have hB : BG M M28 [(o, (.inr (2, [.ref q1, .ref q4]))), (q1, (.inl (cT 0, 10, rD (vf_upd (vf_upd (vf_upd (vf_upd (vf_upd (vf_upd (fun _ => 0) 0 (upf 0)) 1 (upf 1)) 2 (upf 2)) 3 (upf 3)) 4 (upf 4)) 5 (upf 5))))), (q4, (.inl (cT 0, 10, rD (vf_upd (vf_upd (vf_upd (vf_upd (vf_upd (fun _ => 0) 0 (dnf 0)) 1 (dnf 1)) 2 (dnf 2)) 3 (dnf 3)) 4 (dnf 4)))))] := hB.set 1 rfl hM28
  refine lv_aload_n hx hb dX2_init_47 rfl (lv_at hl 2 rfl) ?_
  refine hm_get S hK hM.pr cI2 (hB.get 0 rfl) 1 (by decide) w_1_26 rfl dX2_init_48 ?_
  refine lv_iload_n hx hb dX2_init_51 rfl (lv_at hl 1 rfl) ?_
  refine lv_dconst1 hx hb dX2_init_52 ?_
  refine lv_dload_n hx hb dX2_init_53 rfl (lv_at hl 0 rfl) ?_
  refine lv_ddiv hx hb dX2_init_54 (by rw [dnf_inv 5 (by decide)]; exact n64_fin (dnf_P (by decide)).fin) ?_
  refine lv_topd (fun z29 hz29 => ?_)
  have hz29 : z29 = (dnf 5) := by rw [hz29]; exact dnf_inv 5 (by decide)
  subst hz29
  refine hm_dast S hK hM (hB.get 2 rfl) (vp_in_nI (n := 5) (by decide) (by decide)) dX2_init_55 (fun H locs M30 hM30 hM => ?_)
  have hB : BG M M30 [(o, (.inr (2, [.ref q1, .ref q4]))), (q1, (.inl (cT 0, 10, rD (vf_upd (vf_upd (vf_upd (vf_upd (vf_upd (vf_upd (fun _ => 0) 0 (upf 0)) 1 (upf 1)) 2 (upf 2)) 3 (upf 3)) 4 (upf 4)) 5 (upf 5))))), (q4, (.inl (cT 0, 10, rD (vf_upd (vf_upd (vf_upd (vf_upd (vf_upd (vf_upd (fun _ => 0) 0 (dnf 0)) 1 (dnf 1)) 2 (dnf 2)) 3 (dnf 3)) 4 (dnf 4)) 5 (dnf 5)))))] := hB.set 2 rfl hM30
  refine lv_iinc (v := 6) (lv' := [(3, .int 6), (1, .double (upf 5)), (0, .ref o)]) hx hb dX2_init_56 hl (k := 1) rfl (by rfl) (by decide) rfl (fun ls hl => ?_)
  refine lv_goto (tgt := 26) hx hb dX2_init_59 (by decide) ?_
  refine lv_iload_n hx hb dX2_init_26 rfl (lv_at hl 0 rfl) ?_
  refine lv_bipush (v := 10) hx hb dX2_init_27 (by decide) ?_
  refine lv_icmp_ge (tgt := 62) hx hb dX2_init_29 (by decide) (fun h => absurd h (by decide)) (fun _ => ?_)
  refine lv_iload_n hx hb dX2_init_32 rfl (lv_at hl 0 rfl) ?_
  refine lv_if_le (tgt := 40) hx hb dX2_init_33 (by decide) (fun h => absurd h (by decide)) (fun _ => ?_)
  refine lv_dload_n hx hb dX2_init_36 rfl (lv_at hl 1 rfl) ?_
  refine lv_dload_n hx hb dX2_init_37 rfl (lv_at hl 1 rfl) ?_
  refine lv_dmul hx hb dX2_init_38 (by rw [upf_sq 5 (by decide)]; exact n64_fin (upf_P (by decide)).fin) ?_
  refine lv_topd (fun z31 hz31 => ?_)
  have hz31 : z31 = (upf 6) := by rw [hz31]; exact upf_sq 5 (by decide)
  subst hz31
  refine lv_dstore_n (lv' := [(1, .double (upf 6)), (3, .int 6), (0, .ref o)]) hx hb dX2_init_39 rfl hl (by decide) rfl (fun ls hl => ?_)
  refine lv_aload_n hx hb dX2_init_40 rfl (lv_at hl 2 rfl) ?_
  refine hm_get S hK hM.pr cI2 (hB.get 0 rfl) 0 (by decide) w_1_25 rfl dX2_init_41 ?_
  refine lv_iload_n hx hb dX2_init_44 rfl (lv_at hl 1 rfl) ?_
  refine lv_dload_n hx hb dX2_init_45 rfl (lv_at hl 0 rfl) ?_
  refine hm_dast S hK hM (hB.get 1 rfl) (vp_in_nI (n := 6) (by decide) (by decide)) dX2_init_46 (fun H locs M32 hM32 hM => ?_)
  have hB : BG M M32 [(o, (.inr (2, [.ref q1, .ref q4]))), (q1, (.inl (cT 0, 10, rD (vf_upd (vf_upd (vf_upd (vf_upd (vf_upd (vf_upd (vf_upd (fun _ => 0) 0 (upf 0)) 1 (upf 1)) 2 (upf 2)) 3 (upf 3)) 4 (upf 4)) 5 (upf 5)) 6 (upf 6))))), (q4, (.inl (cT 0, 10, rD (vf_upd (vf_upd (vf_upd (vf_upd (vf_upd (vf_upd (fun _ => 0) 0 (dnf 0)) 1 (dnf 1)) 2 (dnf 2)) 3 (dnf 3)) 4 (dnf 4)) 5 (dnf 5)))))] := hB.set 1 rfl hM32
  refine lv_aload_n hx hb dX2_init_47 rfl (lv_at hl 2 rfl) ?_
  refine hm_get S hK hM.pr cI2 (hB.get 0 rfl) 1 (by decide) w_1_26 rfl dX2_init_48 ?_
  refine lv_iload_n hx hb dX2_init_51 rfl (lv_at hl 1 rfl) ?_
  refine lv_dconst1 hx hb dX2_init_52 ?_
  refine lv_dload_n hx hb dX2_init_53 rfl (lv_at hl 0 rfl) ?_
  refine lv_ddiv hx hb dX2_init_54 (by rw [dnf_inv 6 (by decide)]; exact n64_fin (dnf_P (by decide)).fin) ?_
  refine lv_topd (fun z33 hz33 => ?_)
  have hz33 : z33 = (dnf 6) := by rw [hz33]; exact dnf_inv 6 (by decide)
  subst hz33
  refine hm_dast S hK hM (hB.get 2 rfl) (vp_in_nI (n := 6) (by decide) (by decide)) dX2_init_55 (fun H locs M34 hM34 hM => ?_)
  have hB : BG M M34 [(o, (.inr (2, [.ref q1, .ref q4]))), (q1, (.inl (cT 0, 10, rD (vf_upd (vf_upd (vf_upd (vf_upd (vf_upd (vf_upd (vf_upd (fun _ => 0) 0 (upf 0)) 1 (upf 1)) 2 (upf 2)) 3 (upf 3)) 4 (upf 4)) 5 (upf 5)) 6 (upf 6))))), (q4, (.inl (cT 0, 10, rD (vf_upd (vf_upd (vf_upd (vf_upd (vf_upd (vf_upd (vf_upd (fun _ => 0) 0 (dnf 0)) 1 (dnf 1)) 2 (dnf 2)) 3 (dnf 3)) 4 (dnf 4)) 5 (dnf 5)) 6 (dnf 6)))))] := hB.set 2 rfl hM34
  refine lv_iinc (v := 7) (lv' := [(3, .int 7), (1, .double (upf 6)), (0, .ref o)]) hx hb dX2_init_56 hl (k := 1) rfl (by rfl) (by decide) rfl (fun ls hl => ?_)
  refine lv_goto (tgt := 26) hx hb dX2_init_59 (by decide) ?_
  refine lv_iload_n hx hb dX2_init_26 rfl (lv_at hl 0 rfl) ?_
  refine lv_bipush (v := 10) hx hb dX2_init_27 (by decide) ?_
  refine lv_icmp_ge (tgt := 62) hx hb dX2_init_29 (by decide) (fun h => absurd h (by decide)) (fun _ => ?_)
  refine lv_iload_n hx hb dX2_init_32 rfl (lv_at hl 0 rfl) ?_
  refine lv_if_le (tgt := 40) hx hb dX2_init_33 (by decide) (fun h => absurd h (by decide)) (fun _ => ?_)
  refine lv_dload_n hx hb dX2_init_36 rfl (lv_at hl 1 rfl) ?_
  refine lv_dload_n hx hb dX2_init_37 rfl (lv_at hl 1 rfl) ?_
  refine lv_dmul hx hb dX2_init_38 (by rw [upf_sq 6 (by decide)]; exact n64_fin (upf_P (by decide)).fin) ?_
  refine lv_topd (fun z35 hz35 => ?_)
  have hz35 : z35 = (upf 7) := by rw [hz35]; exact upf_sq 6 (by decide)
  subst hz35
  refine lv_dstore_n (lv' := [(1, .double (upf 7)), (3, .int 7), (0, .ref o)]) hx hb dX2_init_39 rfl hl (by decide) rfl (fun ls hl => ?_)
  refine lv_aload_n hx hb dX2_init_40 rfl (lv_at hl 2 rfl) ?_
  refine hm_get S hK hM.pr cI2 (hB.get 0 rfl) 0 (by decide) w_1_25 rfl dX2_init_41 ?_
  refine lv_iload_n hx hb dX2_init_44 rfl (lv_at hl 1 rfl) ?_
  refine lv_dload_n hx hb dX2_init_45 rfl (lv_at hl 0 rfl) ?_
  refine hm_dast S hK hM (hB.get 1 rfl) (vp_in_nI (n := 7) (by decide) (by decide)) dX2_init_46 (fun H locs M36 hM36 hM => ?_)
  have hB : BG M M36 [(o, (.inr (2, [.ref q1, .ref q4]))), (q1, (.inl (cT 0, 10, rD (vf_upd (vf_upd (vf_upd (vf_upd (vf_upd (vf_upd (vf_upd (vf_upd (fun _ => 0) 0 (upf 0)) 1 (upf 1)) 2 (upf 2)) 3 (upf 3)) 4 (upf 4)) 5 (upf 5)) 6 (upf 6)) 7 (upf 7))))), (q4, (.inl (cT 0, 10, rD (vf_upd (vf_upd (vf_upd (vf_upd (vf_upd (vf_upd (vf_upd (fun _ => 0) 0 (dnf 0)) 1 (dnf 1)) 2 (dnf 2)) 3 (dnf 3)) 4 (dnf 4)) 5 (dnf 5)) 6 (dnf 6)))))] := hB.set 1 rfl hM36
  refine lv_aload_n hx hb dX2_init_47 rfl (lv_at hl 2 rfl) ?_
  refine hm_get S hK hM.pr cI2 (hB.get 0 rfl) 1 (by decide) w_1_26 rfl dX2_init_48 ?_
  refine lv_iload_n hx hb dX2_init_51 rfl (lv_at hl 1 rfl) ?_
  refine lv_dconst1 hx hb dX2_init_52 ?_
  refine lv_dload_n hx hb dX2_init_53 rfl (lv_at hl 0 rfl) ?_
  refine lv_ddiv hx hb dX2_init_54 (by rw [dnf_inv 7 (by decide)]; exact n64_fin (dnf_P (by decide)).fin) ?_
  refine lv_topd (fun z37 hz37 => ?_)
  have hz37 : z37 = (dnf 7) := by rw [hz37]; exact dnf_inv 7 (by decide)
  subst hz37
  refine hm_dast S hK hM (hB.get 2 rfl) (vp_in_nI (n := 7) (by decide) (by decide)) dX2_init_55 (fun H locs M38 hM38 hM => ?_)
  have hB : BG M M38 [(o, (.inr (2, [.ref q1, .ref q4]))), (q1, (.inl (cT 0, 10, rD (vf_upd (vf_upd (vf_upd (vf_upd (vf_upd (vf_upd (vf_upd (vf_upd (fun _ => 0) 0 (upf 0)) 1 (upf 1)) 2 (upf 2)) 3 (upf 3)) 4 (upf 4)) 5 (upf 5)) 6 (upf 6)) 7 (upf 7))))), (q4, (.inl (cT 0, 10, rD (vf_upd (vf_upd (vf_upd (vf_upd (vf_upd (vf_upd (vf_upd (vf_upd (fun _ => 0) 0 (dnf 0)) 1 (dnf 1)) 2 (dnf 2)) 3 (dnf 3)) 4 (dnf 4)) 5 (dnf 5)) 6 (dnf 6)) 7 (dnf 7)))))] := hB.set 2 rfl hM38
  refine lv_iinc (v := 8) (lv' := [(3, .int 8), (1, .double (upf 7)), (0, .ref o)]) hx hb dX2_init_56 hl (k := 1) rfl (by rfl) (by decide) rfl (fun ls hl => ?_)
  refine lv_goto (tgt := 26) hx hb dX2_init_59 (by decide) ?_
  refine lv_iload_n hx hb dX2_init_26 rfl (lv_at hl 0 rfl) ?_
  refine lv_bipush (v := 10) hx hb dX2_init_27 (by decide) ?_
  refine lv_icmp_ge (tgt := 62) hx hb dX2_init_29 (by decide) (fun h => absurd h (by decide)) (fun _ => ?_)
  refine lv_iload_n hx hb dX2_init_32 rfl (lv_at hl 0 rfl) ?_
  refine lv_if_le (tgt := 40) hx hb dX2_init_33 (by decide) (fun h => absurd h (by decide)) (fun _ => ?_)
  refine lv_dload_n hx hb dX2_init_36 rfl (lv_at hl 1 rfl) ?_
  refine lv_dload_n hx hb dX2_init_37 rfl (lv_at hl 1 rfl) ?_
  refine lv_dmul hx hb dX2_init_38 (by rw [upf_sq 7 (by decide)]; exact n64_fin (upf_P (by decide)).fin) ?_
  refine lv_topd (fun z39 hz39 => ?_)
  have hz39 : z39 = (upf 8) := by rw [hz39]; exact upf_sq 7 (by decide)
  subst hz39
  refine lv_dstore_n (lv' := [(1, .double (upf 8)), (3, .int 8), (0, .ref o)]) hx hb dX2_init_39 rfl hl (by decide) rfl (fun ls hl => ?_)
  refine lv_aload_n hx hb dX2_init_40 rfl (lv_at hl 2 rfl) ?_
  refine hm_get S hK hM.pr cI2 (hB.get 0 rfl) 0 (by decide) w_1_25 rfl dX2_init_41 ?_
  refine lv_iload_n hx hb dX2_init_44 rfl (lv_at hl 1 rfl) ?_
  refine lv_dload_n hx hb dX2_init_45 rfl (lv_at hl 0 rfl) ?_
  refine hm_dast S hK hM (hB.get 1 rfl) (vp_in_nI (n := 8) (by decide) (by decide)) dX2_init_46 (fun H locs M40 hM40 hM => ?_)
  have hB : BG M M40 [(o, (.inr (2, [.ref q1, .ref q4]))), (q1, (.inl (cT 0, 10, rD (vf_upd (vf_upd (vf_upd (vf_upd (vf_upd (vf_upd (vf_upd (vf_upd (vf_upd (fun _ => 0) 0 (upf 0)) 1 (upf 1)) 2 (upf 2)) 3 (upf 3)) 4 (upf 4)) 5 (upf 5)) 6 (upf 6)) 7 (upf 7)) 8 (upf 8))))), (q4, (.inl (cT 0, 10, rD (vf_upd (vf_upd (vf_upd (vf_upd (vf_upd (vf_upd (vf_upd (vf_upd (fun _ => 0) 0 (dnf 0)) 1 (dnf 1)) 2 (dnf 2)) 3 (dnf 3)) 4 (dnf 4)) 5 (dnf 5)) 6 (dnf 6)) 7 (dnf 7)))))] := hB.set 1 rfl hM40
  refine lv_aload_n hx hb dX2_init_47 rfl (lv_at hl 2 rfl) ?_
  refine hm_get S hK hM.pr cI2 (hB.get 0 rfl) 1 (by decide) w_1_26 rfl dX2_init_48 ?_
  refine lv_iload_n hx hb dX2_init_51 rfl (lv_at hl 1 rfl) ?_
  refine lv_dconst1 hx hb dX2_init_52 ?_
  refine lv_dload_n hx hb dX2_init_53 rfl (lv_at hl 0 rfl) ?_
  refine lv_ddiv hx hb dX2_init_54 (by rw [dnf_inv 8 (by decide)]; exact n64_fin (dnf_P (by decide)).fin) ?_
  refine lv_topd (fun z41 hz41 => ?_)
  have hz41 : z41 = (dnf 8) := by rw [hz41]; exact dnf_inv 8 (by decide)
  subst hz41
  refine hm_dast S hK hM (hB.get 2 rfl) (vp_in_nI (n := 8) (by decide) (by decide)) dX2_init_55 (fun H locs M42 hM42 hM => ?_)
  have hB : BG M M42 [(o, (.inr (2, [.ref q1, .ref q4]))), (q1, (.inl (cT 0, 10, rD (vf_upd (vf_upd (vf_upd (vf_upd (vf_upd (vf_upd (vf_upd (vf_upd (vf_upd (fun _ => 0) 0 (upf 0)) 1 (upf 1)) 2 (upf 2)) 3 (upf 3)) 4 (upf 4)) 5 (upf 5)) 6 (upf 6)) 7 (upf 7)) 8 (upf 8))))), (q4, (.inl (cT 0, 10, rD (vf_upd (vf_upd (vf_upd (vf_upd (vf_upd (vf_upd (vf_upd (vf_upd (vf_upd (fun _ => 0) 0 (dnf 0)) 1 (dnf 1)) 2 (dnf 2)) 3 (dnf 3)) 4 (dnf 4)) 5 (dnf 5)) 6 (dnf 6)) 7 (dnf 7)) 8 (dnf 8)))))] := hB.set 2 rfl hM42
  refine lv_iinc (v := 9) (lv' := [(3, .int 9), (1, .double (upf 8)), (0, .ref o)]) hx hb dX2_init_56 hl (k := 1) rfl (by rfl) (by decide) rfl (fun ls hl => ?_)
  refine lv_goto (tgt := 26) hx hb dX2_init_59 (by decide) ?_
  refine lv_iload_n hx hb dX2_init_26 rfl (lv_at hl 0 rfl) ?_
  refine lv_bipush (v := 10) hx hb dX2_init_27 (by decide) ?_
  refine lv_icmp_ge (tgt := 62) hx hb dX2_init_29 (by decide) (fun h => absurd h (by decide)) (fun _ => ?_)
  refine lv_iload_n hx hb dX2_init_32 rfl (lv_at hl 0 rfl) ?_
  refine lv_if_le (tgt := 40) hx hb dX2_init_33 (by decide) (fun h => absurd h (by decide)) (fun _ => ?_)
  refine lv_dload_n hx hb dX2_init_36 rfl (lv_at hl 1 rfl) ?_
  refine lv_dload_n hx hb dX2_init_37 rfl (lv_at hl 1 rfl) ?_
  refine lv_dmul hx hb dX2_init_38 (by rw [upf_sq 8 (by decide)]; exact n64_fin (upf_P (by decide)).fin) ?_
  refine lv_topd (fun z43 hz43 => ?_)
  have hz43 : z43 = (upf 9) := by rw [hz43]; exact upf_sq 8 (by decide)
  subst hz43
  refine lv_dstore_n (lv' := [(1, .double (upf 9)), (3, .int 9), (0, .ref o)]) hx hb dX2_init_39 rfl hl (by decide) rfl (fun ls hl => ?_)
  refine lv_aload_n hx hb dX2_init_40 rfl (lv_at hl 2 rfl) ?_
  refine hm_get S hK hM.pr cI2 (hB.get 0 rfl) 0 (by decide) w_1_25 rfl dX2_init_41 ?_
  refine lv_iload_n hx hb dX2_init_44 rfl (lv_at hl 1 rfl) ?_
  refine lv_dload_n hx hb dX2_init_45 rfl (lv_at hl 0 rfl) ?_
  refine hm_dast S hK hM (hB.get 1 rfl) (vp_in_nI (n := 9) (by decide) (by decide)) dX2_init_46 (fun H locs M44 hM44 hM => ?_)
  have hB : BG M M44 [(o, (.inr (2, [.ref q1, .ref q4]))), (q1, (.inl (cT 0, 10, rD (vf_upd (vf_upd (vf_upd (vf_upd (vf_upd (vf_upd (vf_upd (vf_upd (vf_upd (vf_upd (fun _ => 0) 0 (upf 0)) 1 (upf 1)) 2 (upf 2)) 3 (upf 3)) 4 (upf 4)) 5 (upf 5)) 6 (upf 6)) 7 (upf 7)) 8 (upf 8)) 9 (upf 9))))), (q4, (.inl (cT 0, 10, rD (vf_upd (vf_upd (vf_upd (vf_upd (vf_upd (vf_upd (vf_upd (vf_upd (vf_upd (fun _ => 0) 0 (dnf 0)) 1 (dnf 1)) 2 (dnf 2)) 3 (dnf 3)) 4 (dnf 4)) 5 (dnf 5)) 6 (dnf 6)) 7 (dnf 7)) 8 (dnf 8)))))] := hB.set 1 rfl hM44
  refine lv_aload_n hx hb dX2_init_47 rfl (lv_at hl 2 rfl) ?_
  refine hm_get S hK hM.pr cI2 (hB.get 0 rfl) 1 (by decide) w_1_26 rfl dX2_init_48 ?_
  refine lv_iload_n hx hb dX2_init_51 rfl (lv_at hl 1 rfl) ?_
  refine lv_dconst1 hx hb dX2_init_52 ?_
  refine lv_dload_n hx hb dX2_init_53 rfl (lv_at hl 0 rfl) ?_
  refine lv_ddiv hx hb dX2_init_54 (by rw [dnf_inv 9 (by decide)]; exact n64_fin (dnf_P (by decide)).fin) ?_
  refine lv_topd (fun z45 hz45 => ?_)
  have hz45 : z45 = (dnf 9) := by rw [hz45]; exact dnf_inv 9 (by decide)
  subst hz45
  refine hm_dast S hK hM (hB.get 2 rfl) (vp_in_nI (n := 9) (by decide) (by decide)) dX2_init_55 (fun H locs M46 hM46 hM => ?_)
  have hB : BG M M46 [(o, (.inr (2, [.ref q1, .ref q4]))), (q1, (.inl (cT 0, 10, rD (vf_upd (vf_upd (vf_upd (vf_upd (vf_upd (vf_upd (vf_upd (vf_upd (vf_upd (vf_upd (fun _ => 0) 0 (upf 0)) 1 (upf 1)) 2 (upf 2)) 3 (upf 3)) 4 (upf 4)) 5 (upf 5)) 6 (upf 6)) 7 (upf 7)) 8 (upf 8)) 9 (upf 9))))), (q4, (.inl (cT 0, 10, rD (vf_upd (vf_upd (vf_upd (vf_upd (vf_upd (vf_upd (vf_upd (vf_upd (vf_upd (vf_upd (fun _ => 0) 0 (dnf 0)) 1 (dnf 1)) 2 (dnf 2)) 3 (dnf 3)) 4 (dnf 4)) 5 (dnf 5)) 6 (dnf 6)) 7 (dnf 7)) 8 (dnf 8)) 9 (dnf 9)))))] := hB.set 2 rfl hM46
  refine lv_iinc (v := 10) (lv' := [(3, .int 10), (1, .double (upf 9)), (0, .ref o)]) hx hb dX2_init_56 hl (k := 1) rfl (by rfl) (by decide) rfl (fun ls hl => ?_)
  refine lv_goto (tgt := 26) hx hb dX2_init_59 (by decide) ?_
  refine lv_iload_n hx hb dX2_init_26 rfl (lv_at hl 0 rfl) ?_
  refine lv_bipush (v := 10) hx hb dX2_init_27 (by decide) ?_
  refine lv_icmp_ge (tgt := 62) hx hb dX2_init_29 (by decide) (fun _ => ?_) (fun h => absurd (by decide) h)
  refine mr_v S hM hr hlocks dX2_init_62 ⟨Nat.le_of_ble_eq_true rfl, Nat.le_of_ble_eq_true rfl⟩ ⟨_, _, _, _, hB, to10 ⟨rfl, rfl, rfl, rfl, rfl, rfl, rfl, rfl, rfl, rfl⟩, to10 ⟨rfl, rfl, rfl, rfl, rfl, rfl, rfl, rfl, rfl, rfl⟩⟩
theorem BL.num {M MM : hmp} {o q ua da : Nat} {e0 e1 e2 eu ed : va_E} (h : BL M [(o, e0), (q, e1)]) (hg : BG M MM [(q, e2), (ua, eu), (da, ed)]) : BL MM [(o, e0), (q, e2), (ua, eu), (da, ed)] := by
  have ho : M o = some e0 := h.get 0 rfl
  have hu : M ua = none := hg.2.2 (ua, eu) (List.mem_cons_self)
  have hd : M da = none := hg.2.2 (da, ed) (List.mem_cons_of_mem _ List.mem_cons_self)
  have noq : o ≠ q := by
    have := h.2
    intro w
    exact (List.nodup_cons.mp this).1 (by rw [w]; exact List.mem_cons_self)
  have nou : o ≠ ua := fun w => by rw [w, hu] at ho; cases ho
  have nod : o ≠ da := fun w => by rw [w, hd] at ho; cases ho
  have hoM : MM o = some e0 := by
    rw [hg.2.1 o (fun y hy => by
      rcases List.mem_cons.mp hy with rfl | hy
      · exact noq
      rcases List.mem_cons.mp hy with rfl | hy
      · exact nou
      rw [List.mem_singleton.mp hy]; exact nod)]
    exact ho
  refine ⟨fun x hx => ?_, ?_⟩
  · rcases List.mem_cons.mp hx with rfl | hx
    · exact hoM
    · exact hg.1.1 x hx
  · refine List.nodup_cons.mpr ⟨?_, hg.1.2⟩
    intro w
    rcases List.mem_cons.mp w with w | w
    · exact noq w
    rcases List.mem_cons.mp w with w | w
    · exact nou w
    · exact nod (List.mem_singleton.mp w)
theorem none6 (f : Nat → Nat) (x : Nat → Int32) (n : Nat) (h : ∀ k, k < n → x k < 0) : (fun k => if k < n then orf f (x k) else none) = fun _ => none := by
  funext k
  by_cases c : k < n
  · rw [if_pos c]; exact if_pos (h k c)
  · rw [if_neg c]
theorem z0_val {c i : Nat} (h : val z0 c i) : c = 0 ∧ i < 10 := by
  refine to6 (P := fun c => val z0 c i → c = 0 ∧ i < 10) ⟨fun w => ⟨rfl, w⟩, fun w => absurd w (Nat.not_lt_zero i), fun w => absurd w (Nat.not_lt_zero i), fun w => ?_, fun w => ?_, fun w => absurd rfl w.2⟩ (fun c q w => absurd w (val6 q)) c h
  · have : ∀ k, k < 3 → z0.1 5 k < 0 := by decide +kernel
    exact absurd (this i w.1) w.2
  · have : ∀ k, k < 3 → z0.1 5 k < 0 := by decide +kernel
    exact absurd (this i w.1) w.2
theorem XS.init {cT : Nat → ClassId} {fu fd : Nat → UInt64} {M : hmp} {a0 a1 a2 a3 a4 a5 a6 a7 a8 a9 : Nat} (hu : ∀ i, i < 10 → fu i = upf i) (hd : ∀ i, i < 10 → fd i = dnf i) (h : BL M [(a0, (.inr (4, [.ref a1, .ref a4, .ref a5, .ref a6, .ref a7, .ref a8, .ref a9, .int 0, .long 0, .long 0]))), (a1, (.inr (2, [.ref a2, .ref a3]))), (a2, (.inl (cT 0, 10, rD fu))), (a3, (.inl (cT 0, 10, rD fd))), (a4, (.inl (cT 8, 6, rQ (fun _ => none)))), (a5, (.inl (cT 8, 6, rQ (fun _ => none)))), (a6, (.inl (cT 5, 6, rQ (fun _ => none)))), (a7, (.inl (cT 7, 3, rQ (fun _ => none)))), (a8, (.inl (cT 6, 4, rQ (fun _ => none)))), (a9, (.inl (cT 1, 8, rF (fun _ => 0))))]) : XS cT fu fd (fun _ j => ([a0, a1, a2, a3, a4, a5, a6, a7, a8, a9] : List Nat).getD j 0) M z0 := by
  refine ⟨fun c i hv => ?_, fun c i c' i' h1 h2 e => ?_, hu, hd⟩
  · obtain ⟨rfl, hi⟩ := z0_val hv
    refine to10 (P := fun i => M (([a0, a1, a2, a3, a4, a5, a6, a7, a8, a9] : List Nat).getD i 0) = some (cx cT fu fd (fun _ j => ([a0, a1, a2, a3, a4, a5, a6, a7, a8, a9] : List Nat).getD j 0) z0 0 i)) ⟨h.get 0 rfl, h.get 1 rfl, h.get 2 rfl, h.get 3 rfl, ?_, ?_, ?_, ?_, ?_, ?_⟩ i hi
    · rw [cx_04, none6 _ (z0.1 2) 6 (by decide +kernel)]; exact h.get 4 rfl
    · rw [cx_05, none6 _ (fun k => z0.1 2 (6 + k)) 6 (by decide +kernel)]; exact h.get 5 rfl
    · rw [cx_06, none6 _ (z0.1 4) 6 (by decide +kernel)]; exact h.get 6 rfl
    · rw [cx_07]
      have e : (fun k => if k < 3 then (if z0.1 5 k < 0 then none else some (([a0, a1, a2, a3, a4, a5, a6, a7, a8, a9] : List Nat).getD k 0)) else none) = fun _ => none := by
        funext k
        by_cases c : k < 3
        · have : ∀ k, k < 3 → z0.1 5 k < 0 := by decide +kernel
          rw [if_pos c, if_pos (this k c)]
        · rw [if_neg c]
      rw [e]; exact h.get 7 rfl
    · rw [cx_08]
      have e : (fun k => if k < 4 then (if z0.1 7 k = 0 then none else some (([a0, a1, a2, a3, a4, a5, a6, a7, a8, a9] : List Nat).getD k 0)) else none) = fun _ => none := by
        funext k
        by_cases c : k < 4
        · rw [if_pos c]; exact if_pos rfl
        · rw [if_neg c]
      rw [e]; exact h.get 8 rfl
    · rw [cx_09]
      have e : (fun k => if k < 8 then FP.d2f (z0.2.1 4 k) else 0) = fun _ => 0 := by
        funext k
        by_cases c : k < 8
        · rw [if_pos c]; exact d2f_0
        · rw [if_neg c]
      rw [e]; exact h.get 9 rfl
  · obtain ⟨rfl, hi⟩ := z0_val h1
    obtain ⟨rfl, hi'⟩ := z0_val h2
    exact ⟨rfl, h.inj hi hi' e⟩
set_option maxHeartbeats 4000000 in
set_option maxRecDepth 100000 in
theorem c_X4_init (l : Launch) (D : va_G) (cT : Nat → ClassId) {M : hmp} (o : Nat) (ho : M o = some (.inr (4, [.null, .null, .null, .null, .null, .null, .null, .int 0, .long 0, .long 0]))) (sz : Nat) : Met l yX4_init (wz yX4_init cX4_init 1 none) ({ frames := 2, cells := 9, slots := 55, locals := 47 } : Room) (mP D cT [.ref o] M sz) (mQv (fun MM => ∃ ad fu fd, ad 0 0 = o ∧ XS cT fu fd ad MM z0) D M sz) 9 55 (FA M sz) := by
  refine mk_m (by decide +kernel) (Nat.le_of_ble_eq_true rfl) ?_
  intro p e s m args below meth c S hK hsz hM hr hlocks hnm ls hl
  have hx := S.1
  have hb := S.2.1
  have hml := S.2.2.1
  have hown := S.2.2.2.1
  have hts := S.2.2.2.2
  have hl : lv_has ls 1 [(0, .ref o)] := hl
  have hB := BL.one ho
  refine lv_aload_n hx hb dX4_init_0 rfl (lv_at hl 0 rfl) ?_
  refine W.objInit hx hb hown (hts _ w_1_15) (hts _ w_1_16) (hts _ w_1_17) rfl (hl.1.trans hml.symm) rfl dX4_init_1 (Nat.le_of_ble_eq_true rfl) (Nat.le_of_ble_eq_true rfl) ?_
  refine W.eq (g2 := F0 m 4 ls []) rfl ?_
  refine lv_aload_n hx hb dX4_init_4 rfl (lv_at hl 0 rfl) ?_
  refine hm_new S hK hM cI2 w_1_18 w_1_19 w_1_2 (fs := [.null, .null]) (fun j hj => by rcases (show j = 0 ∨ j = 1 by omega) with rfl | rfl <;> rfl) (Nat.le_of_ble_eq_true rfl) (Nat.le_of_ble_eq_true rfl) dX4_init_5 (fun q H M1 hq hM1 hM => ?_)
  have hB : BL M1 [(o, (.inr (4, [.null, .null, .null, .null, .null, .null, .null, .int 0, .long 0, .long 0]))), (q, (.inr (2, [.null, .null])))] := hB.new hq hM1
  refine lv_dup hx hb dX4_init_8 rfl ?_
  refine mc_v hM (rIm (rest := [.ref q, .ref o]) S hK hM (c_X2_init l D cT q (hB.get 1 rfl) H.size) sm_X2_init rfl w_1_20 ⟨Nat.le_of_ble_eq_true rfl, Nat.le_of_ble_eq_true rfl⟩ ⟨rfl, rfl⟩ rfl hl.1 rfl (Nat.le_of_ble_eq_true rfl) dX4_init_9 ⟨Nat.le_of_ble_eq_true rfl, Nat.le_of_ble_eq_true rfl⟩) (fun M2 H locs hp hM _ _ _ => ?_)
  obtain ⟨ua, da, fu, fd, hp, hfu, hfd⟩ := hp
  have hB : BL M2 [(o, (.inr (4, [.null, .null, .null, .null, .null, .null, .null, .int 0, .long 0, .long 0]))), (q, (.inr (2, [.ref ua, .ref da]))), (ua, (.inl (cT 0, 10, rD (fu)))), (da, (.inl (cT 0, 10, rD (fd))))] := hB.num hp
  refine hm_putF S hK hM cI4 (hB.get 0 rfl) 0 (by decide) w_1_41 rfl hnm rfl rfl rfl (Nat.le_of_ble_eq_true rfl) dX4_init_12 (fun H locs M1 hM1 hM => ?_)
  have hB : BL M1 [(o, (.inr (4, [.ref q, .null, .null, .null, .null, .null, .null, .int 0, .long 0, .long 0]))), (q, (.inr (2, [.ref ua, .ref da]))), (ua, (.inl (cT 0, 10, rD (fu)))), (da, (.inl (cT 0, 10, rD (fd))))] := hB.set 0 rfl hM1
  refine lv_aload_n hx hb dX4_init_15 rfl (lv_at hl 0 rfl) ?_
  refine lv_bipush (v := 6) hx hb dX4_init_16 (by decide) ?_
  refine hm_newA S hK hM w_1_33 (n := 6) (N' := 6) (by decide) (by decide) (Nat.le_of_ble_eq_true rfl) (Nat.le_of_ble_eq_true rfl) (Nat.le_of_ble_eq_true rfl) dX4_init_18 (fun q2 H M3 hnq2 hM3 hM => ?_)
  have hB : BL M3 [(o, (.inr (4, [.ref q, .null, .null, .null, .null, .null, .null, .int 0, .long 0, .long 0]))), (q, (.inr (2, [.ref ua, .ref da]))), (ua, (.inl (cT 0, 10, rD (fu)))), (da, (.inl (cT 0, 10, rD (fd)))), (q2, (.inl (cT 8, 6, rQ (fun _ => none))))] := hB.new hnq2 hM3
  refine hm_putF S hK hM cI4 (hB.get 0 rfl) 1 (by decide) w_1_42 rfl hnm rfl rfl rfl (Nat.le_of_ble_eq_true rfl) dX4_init_21 (fun H locs M4 hM4 hM => ?_)
  have hB : BL M4 [(o, (.inr (4, [.ref q, .ref q2, .null, .null, .null, .null, .null, .int 0, .long 0, .long 0]))), (q, (.inr (2, [.ref ua, .ref da]))), (ua, (.inl (cT 0, 10, rD (fu)))), (da, (.inl (cT 0, 10, rD (fd)))), (q2, (.inl (cT 8, 6, rQ (fun _ => none))))] := hB.set 0 rfl hM4
  refine lv_aload_n hx hb dX4_init_24 rfl (lv_at hl 0 rfl) ?_
  refine lv_bipush (v := 6) hx hb dX4_init_25 (by decide) ?_
  refine hm_newA S hK hM w_1_33 (n := 6) (N' := 6) (by decide) (by decide) (Nat.le_of_ble_eq_true rfl) (Nat.le_of_ble_eq_true rfl) (Nat.le_of_ble_eq_true rfl) dX4_init_27 (fun q5 H M6 hnq5 hM6 hM => ?_)
  have hB : BL M6 [(o, (.inr (4, [.ref q, .ref q2, .null, .null, .null, .null, .null, .int 0, .long 0, .long 0]))), (q, (.inr (2, [.ref ua, .ref da]))), (ua, (.inl (cT 0, 10, rD (fu)))), (da, (.inl (cT 0, 10, rD (fd)))), (q2, (.inl (cT 8, 6, rQ (fun _ => none)))), (q5, (.inl (cT 8, 6, rQ (fun _ => none))))] := hB.new hnq5 hM6
  refine hm_putF S hK hM cI4 (hB.get 0 rfl) 2 (by decide) w_1_43 rfl hnm rfl rfl rfl (Nat.le_of_ble_eq_true rfl) dX4_init_30 (fun H locs M7 hM7 hM => ?_)
  have hB : BL M7 [(o, (.inr (4, [.ref q, .ref q2, .ref q5, .null, .null, .null, .null, .int 0, .long 0, .long 0]))), (q, (.inr (2, [.ref ua, .ref da]))), (ua, (.inl (cT 0, 10, rD (fu)))), (da, (.inl (cT 0, 10, rD (fd)))), (q2, (.inl (cT 8, 6, rQ (fun _ => none)))), (q5, (.inl (cT 8, 6, rQ (fun _ => none))))] := hB.set 0 rfl hM7
  refine lv_aload_n hx hb dX4_init_33 rfl (lv_at hl 0 rfl) ?_
  refine lv_bipush (v := 6) hx hb dX4_init_34 (by decide) ?_
  refine hm_newq S hK hM 5 w_1_35 hK.2.2.1 rfl (n := 6) (N' := 6) (by decide) (by decide) (Nat.le_of_ble_eq_true rfl) (Nat.le_of_ble_eq_true rfl) (Nat.le_of_ble_eq_true rfl) dX4_init_36 (fun q8 H M9 hnq8 hM9 hM => ?_)
  have hB : BL M9 [(o, (.inr (4, [.ref q, .ref q2, .ref q5, .null, .null, .null, .null, .int 0, .long 0, .long 0]))), (q, (.inr (2, [.ref ua, .ref da]))), (ua, (.inl (cT 0, 10, rD (fu)))), (da, (.inl (cT 0, 10, rD (fd)))), (q2, (.inl (cT 8, 6, rQ (fun _ => none)))), (q5, (.inl (cT 8, 6, rQ (fun _ => none)))), (q8, (.inl (cT 5, 6, rQ (fun _ => none))))] := hB.new hnq8 hM9
  refine hm_putF S hK hM cI4 (hB.get 0 rfl) 3 (by decide) w_1_44 rfl hnm rfl rfl rfl (Nat.le_of_ble_eq_true rfl) dX4_init_39 (fun H locs M10 hM10 hM => ?_)
  have hB : BL M10 [(o, (.inr (4, [.ref q, .ref q2, .ref q5, .ref q8, .null, .null, .null, .int 0, .long 0, .long 0]))), (q, (.inr (2, [.ref ua, .ref da]))), (ua, (.inl (cT 0, 10, rD (fu)))), (da, (.inl (cT 0, 10, rD (fd)))), (q2, (.inl (cT 8, 6, rQ (fun _ => none)))), (q5, (.inl (cT 8, 6, rQ (fun _ => none)))), (q8, (.inl (cT 5, 6, rQ (fun _ => none))))] := hB.set 0 rfl hM10
  refine lv_aload_n hx hb dX4_init_42 rfl (lv_at hl 0 rfl) ?_
  refine lv_iconst (v := 3) hx hb dX4_init_43 (by decide) ?_
  refine hm_newq S hK hM 7 w_1_37 hK.2.2.2.2.1 rfl (n := 3) (N' := 3) (by decide) (by decide) (Nat.le_of_ble_eq_true rfl) (Nat.le_of_ble_eq_true rfl) (Nat.le_of_ble_eq_true rfl) dX4_init_44 (fun q11 H M12 hnq11 hM12 hM => ?_)
  have hB : BL M12 [(o, (.inr (4, [.ref q, .ref q2, .ref q5, .ref q8, .null, .null, .null, .int 0, .long 0, .long 0]))), (q, (.inr (2, [.ref ua, .ref da]))), (ua, (.inl (cT 0, 10, rD (fu)))), (da, (.inl (cT 0, 10, rD (fd)))), (q2, (.inl (cT 8, 6, rQ (fun _ => none)))), (q5, (.inl (cT 8, 6, rQ (fun _ => none)))), (q8, (.inl (cT 5, 6, rQ (fun _ => none)))), (q11, (.inl (cT 7, 3, rQ (fun _ => none))))] := hB.new hnq11 hM12
  refine hm_putF S hK hM cI4 (hB.get 0 rfl) 4 (by decide) w_1_45 rfl hnm rfl rfl rfl (Nat.le_of_ble_eq_true rfl) dX4_init_47 (fun H locs M13 hM13 hM => ?_)
  have hB : BL M13 [(o, (.inr (4, [.ref q, .ref q2, .ref q5, .ref q8, .ref q11, .null, .null, .int 0, .long 0, .long 0]))), (q, (.inr (2, [.ref ua, .ref da]))), (ua, (.inl (cT 0, 10, rD (fu)))), (da, (.inl (cT 0, 10, rD (fd)))), (q2, (.inl (cT 8, 6, rQ (fun _ => none)))), (q5, (.inl (cT 8, 6, rQ (fun _ => none)))), (q8, (.inl (cT 5, 6, rQ (fun _ => none)))), (q11, (.inl (cT 7, 3, rQ (fun _ => none))))] := hB.set 0 rfl hM13
  refine lv_aload_n hx hb dX4_init_50 rfl (lv_at hl 0 rfl) ?_
  refine lv_iconst (v := 4) hx hb dX4_init_51 (by decide) ?_
  refine hm_newq S hK hM 6 w_1_39 hK.2.2.2.1 rfl (n := 4) (N' := 4) (by decide) (by decide) (Nat.le_of_ble_eq_true rfl) (Nat.le_of_ble_eq_true rfl) (Nat.le_of_ble_eq_true rfl) dX4_init_52 (fun q14 H M15 hnq14 hM15 hM => ?_)
  have hB : BL M15 [(o, (.inr (4, [.ref q, .ref q2, .ref q5, .ref q8, .ref q11, .null, .null, .int 0, .long 0, .long 0]))), (q, (.inr (2, [.ref ua, .ref da]))), (ua, (.inl (cT 0, 10, rD (fu)))), (da, (.inl (cT 0, 10, rD (fd)))), (q2, (.inl (cT 8, 6, rQ (fun _ => none)))), (q5, (.inl (cT 8, 6, rQ (fun _ => none)))), (q8, (.inl (cT 5, 6, rQ (fun _ => none)))), (q11, (.inl (cT 7, 3, rQ (fun _ => none)))), (q14, (.inl (cT 6, 4, rQ (fun _ => none))))] := hB.new hnq14 hM15
  refine hm_putF S hK hM cI4 (hB.get 0 rfl) 5 (by decide) w_1_46 rfl hnm rfl rfl rfl (Nat.le_of_ble_eq_true rfl) dX4_init_55 (fun H locs M16 hM16 hM => ?_)
  have hB : BL M16 [(o, (.inr (4, [.ref q, .ref q2, .ref q5, .ref q8, .ref q11, .ref q14, .null, .int 0, .long 0, .long 0]))), (q, (.inr (2, [.ref ua, .ref da]))), (ua, (.inl (cT 0, 10, rD (fu)))), (da, (.inl (cT 0, 10, rD (fd)))), (q2, (.inl (cT 8, 6, rQ (fun _ => none)))), (q5, (.inl (cT 8, 6, rQ (fun _ => none)))), (q8, (.inl (cT 5, 6, rQ (fun _ => none)))), (q11, (.inl (cT 7, 3, rQ (fun _ => none)))), (q14, (.inl (cT 6, 4, rQ (fun _ => none))))] := hB.set 0 rfl hM16
  refine lv_aload_n hx hb dX4_init_58 rfl (lv_at hl 0 rfl) ?_
  refine lv_bipush (v := 8) hx hb dX4_init_59 (by decide) ?_
  refine hm_newa S hK hM 1 (atype := .float) (ty := .float) w_1_72 rfl rfl (fun _ _ h => h) (n := 8) (N' := 8) (a0 := (8, rF (fun _ => 0))) (fun _ => rfl) (by decide) (by decide) (Nat.le_of_ble_eq_true rfl) (Nat.le_of_ble_eq_true rfl) (Nat.le_of_ble_eq_true rfl) dX4_init_61 (fun q17 H M18 hnq17 hM18 hM => ?_)
  have hB : BL M18 [(o, (.inr (4, [.ref q, .ref q2, .ref q5, .ref q8, .ref q11, .ref q14, .null, .int 0, .long 0, .long 0]))), (q, (.inr (2, [.ref ua, .ref da]))), (ua, (.inl (cT 0, 10, rD (fu)))), (da, (.inl (cT 0, 10, rD (fd)))), (q2, (.inl (cT 8, 6, rQ (fun _ => none)))), (q5, (.inl (cT 8, 6, rQ (fun _ => none)))), (q8, (.inl (cT 5, 6, rQ (fun _ => none)))), (q11, (.inl (cT 7, 3, rQ (fun _ => none)))), (q14, (.inl (cT 6, 4, rQ (fun _ => none)))), (q17, (.inl (cT 1, 8, rF (fun _ => 0))))] := hB.new hnq17 hM18
  refine hm_putF S hK hM cI4 (hB.get 0 rfl) 6 (by decide) w_1_47 rfl hnm rfl rfl rfl (Nat.le_of_ble_eq_true rfl) dX4_init_63 (fun H locs M19 hM19 hM => ?_)
  have hB : BL M19 [(o, (.inr (4, [.ref q, .ref q2, .ref q5, .ref q8, .ref q11, .ref q14, .ref q17, .int 0, .long 0, .long 0]))), (q, (.inr (2, [.ref ua, .ref da]))), (ua, (.inl (cT 0, 10, rD (fu)))), (da, (.inl (cT 0, 10, rD (fd)))), (q2, (.inl (cT 8, 6, rQ (fun _ => none)))), (q5, (.inl (cT 8, 6, rQ (fun _ => none)))), (q8, (.inl (cT 5, 6, rQ (fun _ => none)))), (q11, (.inl (cT 7, 3, rQ (fun _ => none)))), (q14, (.inl (cT 6, 4, rQ (fun _ => none)))), (q17, (.inl (cT 1, 8, rF (fun _ => 0))))] := hB.set 0 rfl hM19
  refine lv_aload_n hx hb dX4_init_66 rfl (lv_at hl 0 rfl) ?_
  refine lv_iconst (v := 0) hx hb dX4_init_67 (by decide) ?_
  refine hm_put S hK hM cI4 (hB.get 0 rfl) 7 (by decide) w_1_48 rfl rfl rfl (Nat.le_of_ble_eq_true rfl) dX4_init_68 (fun H locs M20 hM20 hM => ?_)
  have hB : BL M20 [(o, (.inr (4, [.ref q, .ref q2, .ref q5, .ref q8, .ref q11, .ref q14, .ref q17, .int 0, .long 0, .long 0]))), (q, (.inr (2, [.ref ua, .ref da]))), (ua, (.inl (cT 0, 10, rD (fu)))), (da, (.inl (cT 0, 10, rD (fd)))), (q2, (.inl (cT 8, 6, rQ (fun _ => none)))), (q5, (.inl (cT 8, 6, rQ (fun _ => none)))), (q8, (.inl (cT 5, 6, rQ (fun _ => none)))), (q11, (.inl (cT 7, 3, rQ (fun _ => none)))), (q14, (.inl (cT 6, 4, rQ (fun _ => none)))), (q17, (.inl (cT 1, 8, rF (fun _ => 0))))] := hB.set 0 rfl hM20
  refine lv_aload_n hx hb dX4_init_71 rfl (lv_at hl 0 rfl) ?_
  refine lv_lconst (v := 0) hx hb dX4_init_72 (by decide) ?_
  refine hm_put S hK hM cI4 (hB.get 0 rfl) 8 (by decide) w_1_49 rfl rfl rfl (Nat.le_of_ble_eq_true rfl) dX4_init_73 (fun H locs M21 hM21 hM => ?_)
  have hB : BL M21 [(o, (.inr (4, [.ref q, .ref q2, .ref q5, .ref q8, .ref q11, .ref q14, .ref q17, .int 0, .long 0, .long 0]))), (q, (.inr (2, [.ref ua, .ref da]))), (ua, (.inl (cT 0, 10, rD (fu)))), (da, (.inl (cT 0, 10, rD (fd)))), (q2, (.inl (cT 8, 6, rQ (fun _ => none)))), (q5, (.inl (cT 8, 6, rQ (fun _ => none)))), (q8, (.inl (cT 5, 6, rQ (fun _ => none)))), (q11, (.inl (cT 7, 3, rQ (fun _ => none)))), (q14, (.inl (cT 6, 4, rQ (fun _ => none)))), (q17, (.inl (cT 1, 8, rF (fun _ => 0))))] := hB.set 0 rfl hM21
  refine lv_aload_n hx hb dX4_init_76 rfl (lv_at hl 0 rfl) ?_
  refine lv_lconst (v := 0) hx hb dX4_init_77 (by decide) ?_
  refine hm_put S hK hM cI4 (hB.get 0 rfl) 9 (by decide) w_1_50 rfl rfl rfl (Nat.le_of_ble_eq_true rfl) dX4_init_78 (fun H locs M22 hM22 hM => ?_)
  have hB : BL M22 [(o, (.inr (4, [.ref q, .ref q2, .ref q5, .ref q8, .ref q11, .ref q14, .ref q17, .int 0, .long 0, .long 0]))), (q, (.inr (2, [.ref ua, .ref da]))), (ua, (.inl (cT 0, 10, rD (fu)))), (da, (.inl (cT 0, 10, rD (fd)))), (q2, (.inl (cT 8, 6, rQ (fun _ => none)))), (q5, (.inl (cT 8, 6, rQ (fun _ => none)))), (q8, (.inl (cT 5, 6, rQ (fun _ => none)))), (q11, (.inl (cT 7, 3, rQ (fun _ => none)))), (q14, (.inl (cT 6, 4, rQ (fun _ => none)))), (q17, (.inl (cT 1, 8, rF (fun _ => 0))))] := hB.set 0 rfl hM22
  refine mr_v S hM hr hlocks dX4_init_81 ⟨Nat.le_of_ble_eq_true rfl, Nat.le_of_ble_eq_true rfl⟩ ⟨_, fu, fd, rfl, XS.init hfu hfd hB⟩
