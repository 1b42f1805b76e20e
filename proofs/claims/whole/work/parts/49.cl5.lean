theorem XS.uMv {cT : Nat → ClassId} {fu fd : Nat → UInt64} {ad : Nat → Nat → Nat} {M M1 : hmp} {z : SG} {i : Nat} {x : UInt64} {y : Int64} (hi : i < 4) (h7 : ¬ z.1 7 i = 0) (h : XS cT fu fd ad M z) (hM : M1 = va_up M (ad 5 i) (some (.inr (1, [.int (z.1 8 i), .int (z.1 9 i), .int (z.1 10 i), .double (z.2.1 2 i), .double x, .long y])))) : XS cT fu fd ad M1 (setL (setF z 3 i x) 0 i y) := by
  have h1 := XS.uHp (x := x) (M1 := va_up M (ad 5 i) (some (.inr (1, ([.int (z.1 8 i), .int (z.1 9 i), .int (z.1 10 i), .double (z.2.1 2 i), .double (z.2.1 3 i), .long (z.2.2 0 i)] : List Value).set 4 (.double x))))) hi h7 h rfl
  refine XS.uHs hi h7 h1 ?_
  rw [hM, up_up rfl]
  show _ = va_up M (ad 5 i) (some (.inr (1, [.int (z.1 8 i), .int (z.1 9 i), .int (z.1 10 i), .double (z.2.1 2 i), .double ((setF z 3 i x).2.1 3 i), .long y])))
  rw [setF_s]
theorem orf_none {f : Nat → Nat} {x : Int32} (e : orf f x = none) : x < 0 := by
  unfold orf at e
  by_cases c : x < 0
  · exact c
  · rw [if_neg c] at e; cases e
set_option maxHeartbeats 4000000 in
set_option maxRecDepth 100000 in
theorem c_X4_step (l : Launch) (D : va_G) (cT : Nat → ClassId) {M : hmp} {fu fd : Nat → UInt64} {ad : Nat → Nat → Nat} {z : SG} {n : Nat} (hX : XS cT fu fd ad M z) (hI : INV n z) (hn : n ≤ 512) (h : Nat) (hh : h < 4) (hset : ¬ z.1 7 h = 0) (sz : Nat) : Met l yX4_step (wz yX4_step cX4_step 7 (some .int)) ({ frames := 4, cells := 0, slots := 0, locals := 100 } : Room) (mP D cT [.ref (ad 0 0), .ref (ad 5 h)] M sz) (mQi (fun rr MM => rr = (sp_step z h).1 ∧ XS cT fu fd ad MM (sp_step z h).2) D M sz) 0 0 (FA M sz) := by
  refine mk_m (by decide +kernel) (Nat.le_of_ble_eq_true rfl) ?_
  intro p e s m args below meth c S hK hsz hM hr hlocks hnm ls hl
  have hx := S.1
  have hb := S.2.1
  have hml := S.2.2.1
  have hown := S.2.2.2.1
  have hts := S.2.2.2.2
  have hl : lv_has ls 7 [(0, .ref (ad 0 0)), (1, .ref (ad 5 h))] := hl
  have hH := hI.2.2.1 h hh hset
  obtain ⟨hpl, kk, hkb, hkk⟩ := hI.2.2.2.1 h hh
  have hslot : slot 0 (z.1 8 h) = cl (z.1 8 h) := (slot_lt (cv := 0) hH.1).2.2
  have tail2 : ∀ (v2 : UInt64), ask z 0 (z.1 8 h) (FP.d2i (z.2.1 3 h)) = 0 → stW z h = 0 → v2 = stV z h → flo v2 → ∀ ls, lv_has ls 7 [(4, .double v2), (2, .ref (ad 1 (cl (z.1 2 (slot 0 (z.1 8 h)))))), (1, .ref (ad 5 h)), (0, .ref (ad 0 0))] → W p l e ({ frames := 4, cells := 0, slots := 0, locals := 100 } : Room) s m args below meth c s.heap [] 0 0 (MQ below (mQi (fun rr MM => rr = (sp_step z h).1 ∧ XS cT fu fd ad MM (sp_step z h).2) D M sz) args s 0 0 (FA M sz)) (F0 m 137 ls []) := by
    intro v2 hask hw0 hv2 hfl2 ls hl
    have htr := ask_0 hask
    have hrl := hI.slr hn (slot_lt (cv := 0) hH.1).2.1 htr.1
    have htq := hI.sl hn (slot_lt (cv := 0) hH.1).2.1 htr.1
    have htq2 := in_cl htr.2
    obtain ⟨qn, hqn0, hqn1, hqne⟩ : ∃ qn, 0 < qn ∧ qn < 17 ∧ z.1 1 (cl (z.1 2 (slot 0 (z.1 8 h)))) = nI qn := ⟨_, by omega, in_cl htq.2, in_nI htq.2 (by decide)⟩
    have hpr := add_fin hpl hH.2.2.2.1 hH.2.2.2.2
    refine lv_aload_n hx hb dX4_step_137 rfl (lv_at hl 3 rfl) ?_
    refine lv_aload_n hx hb dX4_step_138 rfl (lv_at hl 2 rfl) ?_
    refine hm_get S hK hM.pr cI1 (hX.hd hh hset) 5 (by decide) w_2_23 rfl dX4_step_139 ?_
    refine lv_ldc2 hx hb hown (hts _ w_2_59) dX4_step_142 ?_
    refine lv_lrem hx hb dX4_step_145 (by decide) ?_
    refine lv_topl (fun z1 hz1 => ?_)
    have hz1 : z1 = (lN (kk % 8)) := by rw [hz1]; rw [show z.2.2 0 h = lN kk from hkk, show (8 : Int64) = lN 8 from rfl]; exact lrem_n (by omega) (by decide) (by decide)
    subst hz1
    refine lv_l2i hx hb dX4_step_146 rfl ?_
    refine lv_topi (fun z2 hz2 => ?_)
    have hz2 : z2 = (nI (kk % 8)) := by rw [hz2]; exact lN_i _
    subst hz2
    refine lv_dload hx hb dX4_step_147 (lv_at hl 0 rfl) ?_
    refine mc_v hM (rVm (rest := []) S hK hM cI4 (XS.c0 hX) rfl (c_X4_addToMix l D cT hX hI hn (nI (kk % 8)) v2 (vp_in_nI (by omega) (by decide)) (flo_fin hfl2) s.heap.size) sm_X4_addToMix w_S_9 w_2_60 ⟨Nat.le_of_ble_eq_true rfl, Nat.le_of_ble_eq_true rfl⟩ ⟨rfl, rfl⟩ rfl hl.1 rfl (Nat.le_of_ble_eq_true rfl) dX4_step_149 ⟨Nat.le_of_ble_eq_true rfl, Nat.le_of_ble_eq_true rfl⟩) (fun M4 H locs hpr3 hM _ _ _ => ?_)
    have hX := hpr3
    rw [cl_nI (show kk % 8 < 2 ^ 31 by omega)] at hX
    refine lv_aload_n hx hb dX4_step_152 rfl (lv_at hl 2 rfl) ?_
    refine lv_aload_n hx hb dX4_step_153 rfl (lv_at hl 1 rfl) ?_
    refine hm_alen S hK hM.pr (hX.row hrl) (v := nI (cl (z.1 1 (cl (z.1 2 (slot 0 (z.1 8 h))))))) rfl dX4_step_154 ?_
    refine lv_topi (fun z5 hz5 => ?_)
    have hz5 : z5 = (nI qn) := by rw [hz5]; rw [hqne, cl_nI (by omega)]
    subst hz5
    refine mc_v hM (rVm (rest := []) S hK hM cI1 (hX.hd hh hset) rfl (c_X1_moveOn l D cT (ad 5 h) qn hqn0 hqn1 hpr (hX.hd hh hset) H.size) sm_X1_moveOn w_2_66 w_2_64 ⟨Nat.le_of_ble_eq_true rfl, Nat.le_of_ble_eq_true rfl⟩ ⟨rfl, rfl⟩ rfl hl.1 rfl (Nat.le_of_ble_eq_true rfl) dX4_step_155 ⟨Nat.le_of_ble_eq_true rfl, Nat.le_of_ble_eq_true rfl⟩) (fun M7 H locs hpr6 hM _ _ _ => ?_)
    have hX := XS.uMv (z := (setF z 4 (kk % 8) (FP.f2d (heldf (FP.dadd (z.2.1 4 (kk % 8)) v2))))) (x := wrapP (FP.drem (FP.dadd (z.2.1 3 h) (z.2.1 2 h)) (FP.i2d (nI qn))) (FP.i2d (nI qn))) (y := z.2.2 0 h + 1) hh hset hX hpr6
    refine lv_iconst (v := 0) hx hb dX4_step_158 (by decide) ?_
    refine mr_i S hM hr hlocks dX4_step_159 ⟨Nat.le_of_ble_eq_true rfl, Nat.le_of_ble_eq_true rfl⟩ ?_
    have e9 : sp_step z h = (0, (setL (setF (setF z 4 (kk % 8) (FP.f2d (heldf (FP.dadd (z.2.1 4 (kk % 8)) v2)))) 3 h (wrapP (FP.drem (FP.dadd (z.2.1 3 h) (z.2.1 2 h)) (FP.i2d (nI qn))) (FP.i2d (nI qn)))) 0 h (z.2.2 0 h + 1))) := by rw [stW_ok hw0]; unfold stS; rw [hqne, show (z.2.2 0 h).toInt.toNat = kk from (by rw [hkk, pk_lT (by omega)]; rfl), ← hv2]; rfl
    rw [e9]
    exact ⟨rfl, hX⟩
  have tail1 : ∀ (v1 : UInt64), ask z 0 (z.1 8 h) (FP.d2i (z.2.1 3 h)) = 0 → (¬ (¬ z.1 9 h < 0 ∧ z.1 2 (6 + cl (z.1 9 h)) < 0)) → (¬ (¬ z.1 9 h < 0 ∧ z.1 1 (cl (z.1 2 (6 + cl (z.1 9 h)))) = 0)) → v1 = stC z h (z.2.1 0 (itm z 0 (z.1 8 h) (FP.d2i (z.2.1 3 h)))) → flo v1 → ∀ ls, lv_has ls 7 [(4, .double v1), (2, .ref (ad 1 (cl (z.1 2 (slot 0 (z.1 8 h)))))), (1, .ref (ad 5 h)), (0, .ref (ad 0 0))] → W p l e ({ frames := 4, cells := 0, slots := 0, locals := 100 } : Room) s m args below meth c s.heap [] 0 0 (MQ below (mQi (fun rr MM => rr = (sp_step z h).1 ∧ XS cT fu fd ad MM (sp_step z h).2) D M sz) args s 0 0 (FA M sz)) (F0 m 94 ls []) := by
    intro v1 hask hc1 hc2 hv1 hfl1 ls hl
    refine lv_aload_n hx hb dX4_step_94 rfl (lv_at hl 2 rfl) ?_
    refine hm_get S hK hM.pr cI1 (hX.hd hh hset) 2 (by decide) w_2_18 rfl dX4_step_95 ?_
    refine lv_iconst (v := (-1)) hx hb dX4_step_98 (by decide) ?_
    refine lv_icmp_eq (tgt := 137) hx hb dX4_step_99 (by decide) (fun c99 => ?_) (fun c99 => ?_)
    · skip
      have c142 : z.1 10 h < 0 := by rw [c99]; decide
      have hW0 : stW z h = 0 := by unfold stW; rw [if_pos hask, if_neg hc1, if_neg hc2, if_neg (fun q => q.1 c142)]
      exact tail2 v1 hask hW0 (by unfold stV stR; rw [if_pos c142, ← hv1]) hfl1 ls (lv_sub hl [0, 1, 2, 3] rfl)
    · skip
      have hrk : inR (z.1 10 h) 3 := hH.2.2.1.resolve_left c99
      have hr3 := in_cl hrk
      have c142 : ¬ z.1 10 h < 0 := fun w => hrk (Or.inl w)
      refine lv_aload_n hx hb dX4_step_102 rfl (lv_at hl 3 rfl) ?_
      refine hm_get S hK hM.pr cI4 (XS.c0 hX) 4 (by decide) w_1_45 rfl dX4_step_103 ?_
      refine lv_aload_n hx hb dX4_step_106 rfl (lv_at hl 2 rfl) ?_
      refine hm_get S hK hM.pr cI1 (hX.hd hh hset) 2 (by decide) w_2_18 rfl dX4_step_107 ?_
      refine hx_rcks S hK hM.pr hX hrk dX4_step_110 (fun n110 => ?_) (fun n110 => ?_)
      · skip
        refine lv_astoreN (lv' := [(6, .null), (4, .double v1), (2, .ref (ad 1 (cl (z.1 2 (slot 0 (z.1 8 h)))))), (1, .ref (ad 5 h)), (0, .ref (ad 0 0))]) hx hb dX4_step_111 hl (by decide) rfl (fun ls hl => ?_)
        refine lv_aloadN hx hb dX4_step_113 (lv_at hl 0 rfl) ?_
        refine lv_ifnullN (tgt := 126) hx hb dX4_step_115 (by decide) ?_
        refine lv_iconst (v := 1) hx hb dX4_step_126 (by decide) ?_
        refine mr_i S hM hr hlocks dX4_step_127 ⟨Nat.le_of_ble_eq_true rfl, Nat.le_of_ble_eq_true rfl⟩ ?_
        have e9 : sp_step z h = (1, z) := stW_fail (by unfold stW; rw [if_pos hask, if_neg hc1, if_neg hc2, if_pos ⟨c142, Or.inl n110⟩]) (by decide)
        rw [e9]
        exact ⟨rfl, hX⟩
      · skip
        refine lv_astore (lv' := [(6, .ref (ad 3 (cl (z.1 10 h)))), (4, .double v1), (2, .ref (ad 1 (cl (z.1 2 (slot 0 (z.1 8 h)))))), (1, .ref (ad 5 h)), (0, .ref (ad 0 0))]) hx hb dX4_step_111 hl (by decide) rfl (fun ls hl => ?_)
        refine lv_aload hx hb dX4_step_113 (lv_at hl 0 rfl) ?_
        refine lv_ifnull hx hb dX4_step_115 ?_
        refine lv_aload hx hb dX4_step_118 (lv_at hl 0 rfl) ?_
        refine pc_b (rV (rest := []) S hK hM.pr cI3 (hX.rck hr3 n110) rfl (c_X3_hasBarePlace l D cT s.heap hM.pr (ad 3 (cl (z.1 10 h))) (hX.rck hr3 n110) (hX.plc hr3 n110)) sm_X3_hasBarePlace w_2_52 w_2_50 ⟨Nat.le_of_ble_eq_true rfl, Nat.le_of_ble_eq_true rfl⟩ ⟨rfl, rfl⟩ rfl hl.1 rfl (Nat.le_of_ble_eq_true rfl) dX4_step_120 ⟨Nat.le_of_ble_eq_true rfl, Nat.le_of_ble_eq_true rfl⟩) (fun c120 => ?_) (fun c120 => ?_)
        · skip
          refine lv_if_eq (tgt := 128) hx hb dX4_step_123 (by decide) (fun h => absurd h (by decide)) (fun _ => ?_)
          refine lv_iconst (v := 1) hx hb dX4_step_126 (by decide) ?_
          refine mr_i S hM hr hlocks dX4_step_127 ⟨Nat.le_of_ble_eq_true rfl, Nat.le_of_ble_eq_true rfl⟩ ?_
          have e9 : sp_step z h = (1, z) := stW_fail (by unfold stW; rw [if_pos hask, if_neg hc1, if_neg hc2, if_pos ⟨c142, (by rcases c120 with w | w | w; exact Or.inr (Or.inl (orf_none ((if_pos (by decide)).symm.trans w))); exact Or.inr (Or.inr (Or.inl (orf_none ((if_pos (by decide)).symm.trans w)))); exact Or.inr (Or.inr (Or.inr (orf_none ((if_pos (by decide)).symm.trans w)))))⟩]) (by decide)
          rw [e9]
          exact ⟨rfl, hX⟩
        · skip
          refine lv_if_eq (tgt := 128) hx hb dX4_step_123 (by decide) (fun _ => ?_) (fun h => absurd (by decide) h)
          have ce0 : ¬ (z.1 6 (3 * (cl (z.1 10 h)))) < 0 := fun w => c120 (Or.inl ((if_pos (by decide)).trans (if_pos w)))
          have he0 := hI.hkr hn (show 3 * (cl (z.1 10 h)) < 9 by omega) ce0
          have hf0 := hI.hk hn (show 3 * (cl (z.1 10 h)) < 9 by omega) ce0
          have ce1 : ¬ (z.1 6 (3 * (cl (z.1 10 h)) + 1)) < 0 := fun w => c120 (Or.inr (Or.inl ((if_pos (by decide)).trans (if_pos w))))
          have he1 := hI.hkr hn (show 3 * (cl (z.1 10 h)) + 1 < 9 by omega) ce1
          have hf1 := hI.hk hn (show 3 * (cl (z.1 10 h)) + 1 < 9 by omega) ce1
          have ce2 : ¬ (z.1 6 (3 * (cl (z.1 10 h)) + 2)) < 0 := fun w => c120 (Or.inr (Or.inr ((if_pos (by decide)).trans (if_pos w))))
          have he2 := hI.hkr hn (show 3 * (cl (z.1 10 h)) + 2 < 9 by omega) ce2
          have hf2 := hI.hk hn (show 3 * (cl (z.1 10 h)) + 2 < 9 by omega) ce2
          have hm0 := mde_flo (z := z) (e := (z.1 6 (3 * (cl (z.1 10 h))))) (mkv_nn (kd := z.1 3 (cl (z.1 6 (3 * (cl (z.1 10 h)))))) hfl1 hf0.2.1 hf0.2.2)
          have hm1 := mde_flo (z := z) (e := (z.1 6 (3 * (cl (z.1 10 h)) + 1))) (mkv_nn (kd := z.1 3 (cl (z.1 6 (3 * (cl (z.1 10 h)) + 1)))) hm0 hf1.2.1 hf1.2.2)
          have hm2 := mde_flo (z := z) (e := (z.1 6 (3 * (cl (z.1 10 h)) + 2))) (mkv_nn (kd := z.1 3 (cl (z.1 6 (3 * (cl (z.1 10 h)) + 2)))) hm1 hf2.2.1 hf2.2.2)
          refine lv_aload hx hb dX4_step_128 (lv_at hl 0 rfl) ?_
          refine lv_dload hx hb dX4_step_130 (lv_at hl 1 rfl) ?_
          refine pc_d (rV (rest := []) S hK hM.pr cI3 (hX.rck hr3 n110) rfl (c_X3_madeOf l D cT s.heap hM.pr (ad 3 (cl (z.1 10 h))) v1 (hX.rck hr3 n110) (hX.plc hr3 n110) hfl1 ((if_pos (by decide)).trans (if_neg ce0)) (hX.eff he0) hf0.2.1 hf0.2.2 ((if_pos (by decide)).trans (if_neg ce1)) (hX.eff he1) hf1.2.1 hf1.2.2 ((if_pos (by decide)).trans (if_neg ce2)) (hX.eff he2) hf2.2.1 hf2.2.2) sm_X3_madeOf w_2_56 w_2_54 ⟨Nat.le_of_ble_eq_true rfl, Nat.le_of_ble_eq_true rfl⟩ ⟨rfl, rfl⟩ rfl hl.1 rfl (Nat.le_of_ble_eq_true rfl) dX4_step_132 ⟨Nat.le_of_ble_eq_true rfl, Nat.le_of_ble_eq_true rfl⟩) (fun r8 hr8 => ?_)
          subst hr8
          refine lv_dstore (lv' := [(4, .double (mde z (z.1 6 (3 * (cl (z.1 10 h)) + 2)) (mde z (z.1 6 (3 * (cl (z.1 10 h)) + 1)) (mde z (z.1 6 (3 * (cl (z.1 10 h)))) v1)))), (6, .ref (ad 3 (cl (z.1 10 h)))), (2, .ref (ad 1 (cl (z.1 2 (slot 0 (z.1 8 h)))))), (1, .ref (ad 5 h)), (0, .ref (ad 0 0))]) hx hb dX4_step_135 hl (by decide) rfl (fun ls hl => ?_)
          have hW0 : stW z h = 0 := by unfold stW; rw [if_pos hask, if_neg hc1, if_neg hc2, if_neg (fun q => by rcases q.2 with q | q | q | q; exact n110 q; exact ce0 q; exact ce1 q; exact ce2 q)]
          exact tail2 (mde z (z.1 6 (3 * (cl (z.1 10 h)) + 2)) (mde z (z.1 6 (3 * (cl (z.1 10 h)) + 1)) (mde z (z.1 6 (3 * (cl (z.1 10 h)))) v1))) hask hW0 (by unfold stV stR; rw [if_neg c142, ← hv1]) hm2 ls (lv_sub hl [0, 2, 3, 4] rfl)
  refine lv_aload_n hx hb dX4_step_0 rfl (lv_at hl 0 rfl) ?_
  refine hm_get S hK hM.pr cI4 (XS.c0 hX) 1 (by decide) w_1_42 rfl dX4_step_1 ?_
  refine lv_aload_n hx hb dX4_step_4 rfl (lv_at hl 1 rfl) ?_
  refine hm_get S hK hM.pr cI1 (hX.hd hh hset) 0 (by decide) w_2_14 rfl dX4_step_5 ?_
  refine hx_rows S hK hM.pr hX 0 hH.1 dX4_step_8 (fun n8 => ?_) (fun n8 => ?_)
  · skip
    refine lv_astore_nN (lv' := [(2, .null), (0, .ref (ad 0 0)), (1, .ref (ad 5 h))]) hx hb dX4_step_9 rfl hl (by decide) rfl (fun ls hl => ?_)
    refine lv_aload_nN hx hb dX4_step_10 rfl (lv_at hl 0 rfl) ?_
    refine lv_ifnonnullN hx hb dX4_step_11 ?_
    refine lv_iconst (v := 1) hx hb dX4_step_14 (by decide) ?_
    refine mr_i S hM hr hlocks dX4_step_15 ⟨Nat.le_of_ble_eq_true rfl, Nat.le_of_ble_eq_true rfl⟩ ?_
    have e9 : sp_step z h = (1, z) := stW_fail (by unfold stW; rw [show ask z 0 (z.1 8 h) (FP.d2i (z.2.1 3 h)) = 1 from if_pos n8, if_neg (by decide)]) (by decide)
    rw [e9]
    exact ⟨rfl, hX⟩
  · skip
    have hrl := hI.slr hn (slot_lt (cv := 0) hH.1).2.1 n8
    have hsz := (hI.sl hn (slot_lt (cv := 0) hH.1).2.1 n8).2
    have hsz2 := in_cl hsz
    refine lv_astore_n (lv' := [(2, .ref (ad 1 (cl (z.1 2 (slot 0 (z.1 8 h)))))), (0, .ref (ad 0 0)), (1, .ref (ad 5 h))]) hx hb dX4_step_9 rfl hl (by decide) rfl (fun ls hl => ?_)
    refine lv_aload_n hx hb dX4_step_10 rfl (lv_at hl 0 rfl) ?_
    refine lv_ifnonnull (tgt := 16) hx hb dX4_step_11 (by decide) ?_
    refine lv_aload_n hx hb dX4_step_16 rfl (lv_at hl 2 rfl) ?_
    refine hm_get S hK hM.pr cI1 (hX.hd hh hset) 4 (by decide) w_2_21 rfl dX4_step_17 ?_
    refine lv_d2i hx hb dX4_step_20 ?_
    refine lv_istore_n (lv' := [(3, .int (FP.d2i (z.2.1 3 h))), (2, .ref (ad 1 (cl (z.1 2 (slot 0 (z.1 8 h)))))), (0, .ref (ad 0 0)), (1, .ref (ad 5 h))]) hx hb dX4_step_21 rfl hl (by decide) rfl (fun ls hl => ?_)
    refine lv_iload_n hx hb dX4_step_22 rfl (lv_at hl 0 rfl) ?_
    refine lv_aload_n hx hb dX4_step_23 rfl (lv_at hl 1 rfl) ?_
    refine hm_alen S hK hM.pr (hX.row hrl) rfl dX4_step_24 ?_
    refine pc_b (rS (rest := []) S hK (c_X4_isBelow l D cT s.heap (FP.d2i (z.2.1 3 h)) (nI (cl (z.1 1 (cl (z.1 2 (slot 0 (z.1 8 h))))))) (n := cl (z.1 1 (cl (z.1 2 (slot 0 (z.1 8 h)))))) (by omega) rfl) sm_X4_isBelow w_1_77 ⟨Nat.le_of_ble_eq_true rfl, Nat.le_of_ble_eq_true rfl⟩ ⟨rfl, rfl⟩ rfl hl.1 rfl (Nat.le_of_ble_eq_true rfl) dX4_step_25 ⟨Nat.le_of_ble_eq_true rfl, Nat.le_of_ble_eq_true rfl⟩) (fun c25 => ?_) (fun c25 => ?_)
    · skip
      refine lv_if_ne (tgt := 33) hx hb dX4_step_28 (by decide) (fun _ => ?_) (fun h => absurd h (by decide))
      refine lv_aload_n hx hb dX4_step_33 rfl (lv_at hl 1 rfl) ?_
      refine lv_iload_n hx hb dX4_step_34 rfl (lv_at hl 0 rfl) ?_
      have hask : ask z 0 (z.1 8 h) (FP.d2i (z.2.1 3 h)) = 0 := (if_neg n8).trans (if_pos c25)
      have hix0 := itm_ix hI hn hH.1 hask
      have hv0 : flo (z.2.1 0 (itm z 0 (z.1 8 h) (FP.d2i (z.2.1 3 h)))) := by have h7 := hI.itf (k := cl (z.1 8 h)) (j := cl (FP.d2i (z.2.1 3 h))) (in_cl hH.1) (by rw [← hslot]; exact (ask_0 hask).1) hix0.2.2; rw [← hslot] at h7; exact h7
      refine hm_dald S hK hM.pr (hX.row hrl) c25 dX4_step_35 ?_
      refine lv_topd (fun z9 hz9 => ?_)
      have hz9 : z9 = (z.2.1 0 (itm z 0 (z.1 8 h) (FP.d2i (z.2.1 3 h)))) := by rw [hz9]; exact if_pos (by have := in_cl c25; show cl (FP.d2i (z.2.1 3 h)) < 16; omega)
      subst hz9
      refine lv_dstore (lv' := [(4, .double (z.2.1 0 (itm z 0 (z.1 8 h) (FP.d2i (z.2.1 3 h))))), (3, .int (FP.d2i (z.2.1 3 h))), (2, .ref (ad 1 (cl (z.1 2 (slot 0 (z.1 8 h)))))), (0, .ref (ad 0 0)), (1, .ref (ad 5 h))]) hx hb dX4_step_36 hl (by decide) rfl (fun ls hl => ?_)
      refine lv_aload_n hx hb dX4_step_38 rfl (lv_at hl 4 rfl) ?_
      refine hm_get S hK hM.pr cI1 (hX.hd hh hset) 1 (by decide) w_2_16 rfl dX4_step_39 ?_
      refine lv_iconst (v := (-1)) hx hb dX4_step_42 (by decide) ?_
      refine lv_icmp_eq (tgt := 94) hx hb dX4_step_43 (by decide) (fun c43 => ?_) (fun c43 => ?_)
      · skip
        have c47 : z.1 9 h < 0 := by rw [c43]; decide
        exact tail1 _ hask (fun q => q.1 c47) (fun q => q.1 c47) (by unfold stC; rw [if_pos c47]) hv0 ls (lv_sub hl [0, 2, 4, 3] rfl)
      · skip
        have hcv : inR (z.1 9 h) 6 := hH.2.1.resolve_left c43
        have hcc := in_cl hcv
        have c47 : ¬ z.1 9 h < 0 := fun w => hcv (Or.inl w)
        have hs1 : slot 1 (z.1 9 h) = 6 + cl (z.1 9 h) := (slot_lt (cv := 1) hcv).2.2.trans (if_neg (by decide))
        refine lv_aload_n hx hb dX4_step_46 rfl (lv_at hl 3 rfl) ?_
        refine hm_get S hK hM.pr cI4 (XS.c0 hX) 2 (by decide) w_1_43 rfl dX4_step_47 ?_
        refine lv_aload_n hx hb dX4_step_50 rfl (lv_at hl 4 rfl) ?_
        refine hm_get S hK hM.pr cI1 (hX.hd hh hset) 1 (by decide) w_2_16 rfl dX4_step_51 ?_
        refine hx_rows S hK hM.pr hX 1 hcv dX4_step_54 (fun n54 => ?_) (fun n54 => ?_)
        · rw [hs1] at n54
          refine lv_astoreN (lv' := [(6, .null), (4, .double (z.2.1 0 (itm z 0 (z.1 8 h) (FP.d2i (z.2.1 3 h))))), (3, .int (FP.d2i (z.2.1 3 h))), (2, .ref (ad 1 (cl (z.1 2 (slot 0 (z.1 8 h)))))), (0, .ref (ad 0 0)), (1, .ref (ad 5 h))]) hx hb dX4_step_55 hl (by decide) rfl (fun ls hl => ?_)
          refine lv_aloadN hx hb dX4_step_57 (lv_at hl 0 rfl) ?_
          refine lv_ifnonnullN hx hb dX4_step_59 ?_
          refine lv_iconst (v := 1) hx hb dX4_step_62 (by decide) ?_
          refine mr_i S hM hr hlocks dX4_step_63 ⟨Nat.le_of_ble_eq_true rfl, Nat.le_of_ble_eq_true rfl⟩ ?_
          have e9 : sp_step z h = (1, z) := stW_fail (by unfold stW; exact (if_pos hask).trans (if_pos ⟨c47, n54⟩)) (by decide)
          rw [e9]
          exact ⟨rfl, hX⟩
        · rw [hs1] at n54 ⊢
          have hrc := hI.slr hn (show 6 + cl (z.1 9 h) < 12 by omega) n54
          have hrw := (hI.sl hn (show 6 + cl (z.1 9 h) < 12 by omega) n54).2
          have hq16 := in_cl hrw
          refine lv_astore (lv' := [(6, .ref (ad 1 (cl (z.1 2 (6 + cl (z.1 9 h)))))), (4, .double (z.2.1 0 (itm z 0 (z.1 8 h) (FP.d2i (z.2.1 3 h))))), (3, .int (FP.d2i (z.2.1 3 h))), (2, .ref (ad 1 (cl (z.1 2 (slot 0 (z.1 8 h)))))), (0, .ref (ad 0 0)), (1, .ref (ad 5 h))]) hx hb dX4_step_55 hl (by decide) rfl (fun ls hl => ?_)
          refine lv_aload hx hb dX4_step_57 (lv_at hl 0 rfl) ?_
          refine lv_ifnonnull (tgt := 64) hx hb dX4_step_59 (by decide) ?_
          refine lv_aload hx hb dX4_step_64 (lv_at hl 0 rfl) ?_
          refine hm_alen S hK hM.pr (hX.row hrc) rfl dX4_step_66 ?_
          refine lv_if_ne (tgt := 72) hx hb dX4_step_67 (by decide) (fun c67 => ?_) (fun c67 => ?_)
          · replace c67 : ¬ z.1 1 (cl (z.1 2 (6 + cl (z.1 9 h)))) = 0 := fun w => c67 (show nI (cl (z.1 1 (cl (z.1 2 (6 + cl (z.1 9 h)))))) = 0 by rw [← in_nI hrw (by decide)]; exact w)
            obtain ⟨q, hq0, hq1, hqe⟩ : ∃ q, 0 < q ∧ q < 17 ∧ z.1 1 (cl (z.1 2 (6 + cl (z.1 9 h)))) = nI q := ⟨_, Nat.pos_of_ne_zero (fun w => c67 (by rw [in_nI hrw (by decide), w]; rfl)), hq16, in_nI hrw (by decide)⟩
            have hkq : kk % q < 16 := by have := Nat.mod_lt kk hq0; omega
            have hfc := hI.it (show 6 + cl (z.1 9 h) < 12 by omega) n54 hkq
            refine lv_dload hx hb dX4_step_72 (lv_at hl 1 rfl) ?_
            refine lv_aload hx hb dX4_step_74 (lv_at hl 0 rfl) ?_
            refine lv_aload_n hx hb dX4_step_76 rfl (lv_at hl 5 rfl) ?_
            refine hm_get S hK hM.pr cI1 (hX.hd hh hset) 5 (by decide) w_2_23 rfl dX4_step_77 ?_
            refine lv_aload hx hb dX4_step_80 (lv_at hl 0 rfl) ?_
            refine hm_alen S hK hM.pr (hX.row hrc) (v := nI (cl (z.1 1 (cl (z.1 2 (6 + cl (z.1 9 h))))))) rfl dX4_step_82 ?_
            refine lv_topi (fun z10 hz10 => ?_)
            have hz10 : z10 = (nI q) := by rw [hz10]; rw [hqe, cl_nI (by omega)]
            subst hz10
            refine lv_i2l hx hb dX4_step_83 rfl ?_
            refine lv_topl (fun z11 hz11 => ?_)
            have hz11 : z11 = (lN q) := by rw [hz11]; exact nI_l (by omega)
            subst hz11
            refine lv_lrem hx hb dX4_step_84 (by intro w; have := lN_inj (b := 0) (by omega) (by decide) w; omega) ?_
            refine lv_topl (fun z12 hz12 => ?_)
            have hz12 : z12 = (lN (kk % q)) := by rw [hz12]; rw [show z.2.2 0 h = lN kk from hkk]; exact lrem_n (by omega) hq0 (by omega)
            subst hz12
            refine lv_l2i hx hb dX4_step_85 rfl ?_
            refine lv_topi (fun z13 hz13 => ?_)
            have hz13 : z13 = (nI (kk % q)) := by rw [hz13]; exact lN_i _
            subst hz13
            refine hm_dald S hK hM.pr (hX.row hrc) (by rw [hqe, cl_nI (by omega)]; exact vp_in_nI (Nat.mod_lt kk hq0) (by omega)) dX4_step_86 ?_
            refine lv_topd (fun z14 hz14 => ?_)
            have hz14 : z14 = (z.2.1 0 (16 * (cl (z.1 2 (6 + cl (z.1 9 h)))) + kk % q)) := by rw [hz14]; rw [show (nI (kk % q)).toNatClampNeg = kk % q from cl_nI (by omega)]; exact if_pos hkq
            subst hz14
            refine lv_dmul hx hb dX4_step_87 (n64_of (nn_mul (flo_fin hv0) hfc)) ?_
            refine pc_f (rS (rest := []) S hK (c_X2_held l D cT s.heap (FP.dmul (z.2.1 0 (itm z 0 (z.1 8 h) (FP.d2i (z.2.1 3 h)))) (z.2.1 0 (16 * (cl (z.1 2 (6 + cl (z.1 9 h)))) + kk % q))) (nn_mul (flo_fin hv0) hfc)) sm_X2_held w_2_49 ⟨Nat.le_of_ble_eq_true rfl, Nat.le_of_ble_eq_true rfl⟩ ⟨rfl, rfl⟩ rfl hl.1 rfl (Nat.le_of_ble_eq_true rfl) dX4_step_88 ⟨Nat.le_of_ble_eq_true rfl, Nat.le_of_ble_eq_true rfl⟩) (fun r15 hr15 => ?_)
            subst hr15
            refine lv_f2d hx hb dX4_step_91 (n64_fin (fin_f2d (heldf_fin (nn_mul (flo_fin hv0) hfc)))) ?_
            refine lv_dstore (lv' := [(4, .double (FP.f2d (heldf (FP.dmul (z.2.1 0 (itm z 0 (z.1 8 h) (FP.d2i (z.2.1 3 h)))) (z.2.1 0 (16 * (cl (z.1 2 (6 + cl (z.1 9 h)))) + kk % q)))))), (6, .ref (ad 1 (cl (z.1 2 (6 + cl (z.1 9 h)))))), (3, .int (FP.d2i (z.2.1 3 h))), (2, .ref (ad 1 (cl (z.1 2 (slot 0 (z.1 8 h)))))), (0, .ref (ad 0 0)), (1, .ref (ad 5 h))]) hx hb dX4_step_92 hl (by decide) rfl (fun ls hl => ?_)
            exact tail1 _ hask (fun q => n54 q.2) (fun q => c67 q.2) (by unfold stC; rw [if_neg c47, hqe, cl_nI (by omega), show (z.2.2 0 h).toInt.toNat = kk from (by rw [hkk, pk_lT (by omega)]; rfl)]) (f2d_flo (heldf_fin (nn_mul (flo_fin hv0) hfc))) ls (lv_sub hl [0, 3, 5, 4] rfl)
          · replace c67 : nI (cl (z.1 1 (cl (z.1 2 (6 + cl (z.1 9 h)))))) = 0 := c67
            rw [← in_nI hrw (by decide)] at c67
            refine lv_iconst (v := 2) hx hb dX4_step_70 (by decide) ?_
            refine mr_i S hM hr hlocks dX4_step_71 ⟨Nat.le_of_ble_eq_true rfl, Nat.le_of_ble_eq_true rfl⟩ ?_
            have e9 : sp_step z h = (2, z) := stW_fail (by unfold stW; exact (if_pos hask).trans ((if_neg (fun q => n54 q.2)).trans (if_pos ⟨c47, c67⟩))) (by decide)
            rw [e9]
            exact ⟨rfl, hX⟩
    · skip
      refine lv_if_ne (tgt := 33) hx hb dX4_step_28 (by decide) (fun h => absurd rfl h) (fun _ => ?_)
      refine lv_iconst (v := 2) hx hb dX4_step_31 (by decide) ?_
      refine mr_i S hM hr hlocks dX4_step_32 ⟨Nat.le_of_ble_eq_true rfl, Nat.le_of_ble_eq_true rfl⟩ ?_
      have e9 : sp_step z h = (2, z) := stW_fail (by unfold stW; rw [show ask z 0 (z.1 8 h) (FP.d2i (z.2.1 3 h)) = 2 from (if_neg n8).trans (if_neg c25), if_neg (by decide)]) (by decide)
      rw [e9]
      exact ⟨rfl, hX⟩
