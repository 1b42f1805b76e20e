theorem add_fin {p r : UInt64} (hp : p.toNat % 9223372036854775808 < 4625196817309499392) (hr : fin64 r) (hg : rng r 13857576053419016192 4634204016564240384) : fin64 (FP.dadd p r) := by
  have h1 := rng_mag hr hg (B := 4634204016564240384) (by decide) (by decide) (by decide)
  have h2 := FP.Core.dadd_mag (a := p) (b := r) (K := 1100) (by omega) (by omega) (by decide)
  unfold fin64
  exact Nat.lt_trans h2 (by decide)
theorem i2d_zm {q : Nat} (h0 : 0 < q) (h : q < 2 ^ 31) : P64 (FP.i2d (nI q)) (q * 2 ^ 1074) := by
  have := P64.l2d (n := q) (by omega)
  have e : FP.i2d (nI q) = FP.l2d (lN q) := by
    have := FP.Core.i2d_l2d (nI q)
    rw [nI_l h] at this
    exact this
  rw [e]; exact this
/-- a rest that isn't below zero is below what it is by -/
theorem rem_lt {x n : UInt64} {b : Nat} (hx : fin64 x) (hn : P64 n b) (hb : 0 < b) (h : ¬ dLt (FP.drem x n) FP.dconst0) : dLt (FP.drem x n) n := by
  obtain ⟨h1, h2, h3⟩ := drem_facts hx hn.fin (by rw [hn.mg]; exact hb)
  rw [dlt_iff h1 hn.fin, hn.zval, zv_eq h1]
  rw [dlt_iff h1 fin_dc0, P64.dc0.zval, zv_eq h1] at h
  have h4 : zmg (FP.drem x n) < b := by rw [h3, hn.mg]; exact Nat.mod_lt _ hb
  by_cases hs : 9223372036854775808 ≤ (FP.drem x n).toNat
  · rw [if_pos hs] at h ⊢; omega
  · rw [if_neg hs] at h ⊢; omega
theorem lrem_n {k q : Nat} (hk : k < 2 ^ 63) (h0 : 0 < q) (hq : q < 2 ^ 63) : lN k - lN k / lN q * lN q = lN (k % q) := pk_lRem hk h0 hq
theorem stW_fail {z : SG} {h : Nat} {w : Int32} (h1 : stW z h = w) (h2 : w ≠ 0) : sp_step z h = (w, z) := by
  unfold sp_step; rw [h1, if_neg h2]
theorem stW_ok {z : SG} {h : Nat} (h1 : stW z h = 0) : sp_step z h = (0, stS z h) := by
  unfold sp_step; rw [if_pos h1]
set_option maxHeartbeats 4000000 in
set_option maxRecDepth 100000 in
theorem c_X5_step (l : Launch) (D : va_G) (cT : Nat → ClassId) {M : hmp} {a : Nat → Nat} {z : SG} (hR : RS cT a M z) {n : Nat} (hI : INV n z) (hn : n ≤ 512) (h : Int32) (hh : inR h 4) (hset : ¬ z.1 7 (cl h) = 0) (sz : Nat) : Met l yX5_step (wz yX5_step cX5_step 11 (some .int)) ({ frames := 2, cells := 0, slots := 0, locals := 49 } : Room) (mP D cT [.ref (a 0), .int h] M sz) (mQi (fun rr MM => rr = (sp_step z (cl h)).1 ∧ RS cT a MM (sp_step z (cl h)).2) D M sz) 0 0 (FA M sz) := by
  refine mk_m (by decide +kernel) (Nat.le_of_ble_eq_true rfl) ?_
  intro p e s m args below meth c S hK hsz hM hr hlocks hnm ls hl
  have hx := S.1
  have hb := S.2.1
  have hml := S.2.2.1
  have hown := S.2.2.2.1
  have hts := S.2.2.2.2
  have hl : lv_has ls 11 [(0, .ref (a 0)), (1, .int h)] := hl
  have hH := hI.2.2.1 (cl h) (in_cl hh) hset
  obtain ⟨hpl, kk, hkb, hkk⟩ := hI.2.2.2.1 (cl h) (in_cl hh)
  have hslot : slot 0 (z.1 8 (cl h)) = cl (z.1 8 (cl h)) := (slot_lt (cv := 0) hH.1).2.2
  have tail2 : ∀ (v2 : UInt64), ask z 0 (z.1 8 (cl h)) (FP.d2i (z.2.1 3 (cl h))) = 0 → stW z (cl h) = 0 → v2 = stV z (cl h) → flo v2 → ∀ ls, lv_has ls 11 [(4, .double v2), (1, .int h), (0, .ref (a 0))] → W p l e ({ frames := 2, cells := 0, slots := 0, locals := 49 } : Room) s m args below meth c s.heap [] 0 0 (MQ below (mQi (fun rr MM => rr = (sp_step z (cl h)).1 ∧ RS cT a MM (sp_step z (cl h)).2) D M sz) args s 0 0 (FA M sz)) (F0 m 204 ls []) := by
    intro v2 hask hw0 hv2 hfl2 ls hl
    have htr := ask_0 hask
    have htq := hI.sl hn (slot_lt (cv := 0) hH.1).2.1 htr.1
    have htq2 := in_cl htr.2
    obtain ⟨qn, hqn0, hqn1, hqne⟩ : ∃ qn, 0 < qn ∧ qn < 17 ∧ z.1 1 (cl (z.1 2 (slot 0 (z.1 8 (cl h))))) = nI qn := ⟨_, by omega, in_cl htq.2, in_nI htq.2 (by decide)⟩
    obtain ⟨xm, hxm, hxe⟩ := hI.2.2.2.2 (kk % 8) (by omega)
    have hmf : fin64 (z.2.1 4 (kk % 8)) := by rw [hxe]; exact fin_f2d hxm
    have hpr := add_fin hpl hH.2.2.2.1 hH.2.2.2.2
    have hnP := i2d_zm hqn0 (by omega)
    have hpd := drem_facts hpr hnP.fin (by rw [hnP.mg]; exact Nat.mul_pos hqn0 (Nat.two_pow_pos _))
    refine lv_aload_n hx hb dX5_step_204 rfl (lv_at hl 2 rfl) ?_
    refine hm_get S hK hM.pr cI5 (RS.c0 hR) 16 (by decide) w_2_116 rfl dX5_step_205 ?_
    refine lv_iload_n hx hb dX5_step_208 rfl (lv_at hl 1 rfl) ?_
    refine hm_lald S hK hM.pr (RS.c15 hR) hh dX5_step_209 ?_
    refine lv_ldc2 hx hb hown (hts _ w_3_60) dX5_step_210 ?_
    refine lv_lrem hx hb dX5_step_213 (by decide) ?_
    refine lv_topl (fun z1 hz1 => ?_)
    have hz1 : z1 = (lN (kk % 8)) := by rw [hz1]; rw [show (z.2.2 0 (Int32.toNatClampNeg h)) = lN kk from hkk, show (8 : Int64) = lN 8 from rfl]; exact lrem_n (by omega) (by decide) (by decide)
    subst hz1
    refine lv_l2i hx hb dX5_step_214 rfl ?_
    refine lv_topi (fun z2 hz2 => ?_)
    have hz2 : z2 = (nI (kk % 8)) := by rw [hz2]; exact lN_i _
    subst hz2
    refine lv_istore (lv' := [(6, .int (nI (kk % 8))), (4, .double v2), (1, .int h), (0, .ref (a 0))]) hx hb dX5_step_215 hl (by decide) rfl (fun ls hl => ?_)
    refine lv_aload_n hx hb dX5_step_217 rfl (lv_at hl 3 rfl) ?_
    refine hm_get S hK hM.pr cI5 (RS.c0 hR) 17 (by decide) w_2_117 rfl dX5_step_218 ?_
    refine lv_iload hx hb dX5_step_221 (lv_at hl 0 rfl) ?_
    refine lv_aload_n hx hb dX5_step_223 rfl (lv_at hl 3 rfl) ?_
    refine hm_get S hK hM.pr cI5 (RS.c0 hR) 17 (by decide) w_2_117 rfl dX5_step_224 ?_
    refine lv_iload hx hb dX5_step_227 (lv_at hl 0 rfl) ?_
    refine hm_dald S hK hM.pr (RS.c16 hR) (vp_in_nI (n := kk % 8) (by omega) (by decide)) dX5_step_229 ?_
    refine lv_topd (fun z3 hz3 => ?_)
    have hz3 : z3 = (z.2.1 4 (kk % 8)) := by rw [hz3]; exact congrArg (z.2.1 4) (cl_nI (by omega))
    subst hz3
    refine lv_dload hx hb dX5_step_230 (lv_at hl 1 rfl) ?_
    refine lv_dadd hx hb dX5_step_232 (n64_of (nn_add hmf (flo_fin hfl2))) ?_
    refine pc_d (rS (rest := [.int (nI (kk % 8)), .ref (a 16)]) S hK (c_X5_held l D cT s.heap (FP.dadd (z.2.1 4 (kk % 8)) v2) (nn_add hmf (flo_fin hfl2))) sm_X5_held w_3_21 ⟨Nat.le_of_ble_eq_true rfl, Nat.le_of_ble_eq_true rfl⟩ ⟨rfl, rfl⟩ rfl hl.1 rfl (Nat.le_of_ble_eq_true rfl) dX5_step_233 ⟨Nat.le_of_ble_eq_true rfl, Nat.le_of_ble_eq_true rfl⟩) (fun r4 hr4 => ?_)
    subst hr4
    refine hm_dast S hK hM (RS.c16 hR) (vp_in_nI (n := kk % 8) (by omega) (by decide)) dX5_step_236 (fun H locs M5 hM5 hM => ?_)
    rw [show Int32.toNatClampNeg (nI (kk % 8)) = kk % 8 from cl_nI (by omega)] at hM5
    have hR := RS.u16 (k := (kk % 8)) (x := (FP.f2d (heldf (FP.dadd (z.2.1 4 (kk % 8)) v2)))) hR hM5
    refine lv_aload_n hx hb dX5_step_237 rfl (lv_at hl 3 rfl) ?_
    refine hm_get S hK hM.pr cI5 (RS.c0 hR) 1 (by decide) w_2_101 rfl dX5_step_238 ?_
    refine lv_aload_n hx hb dX5_step_241 rfl (lv_at hl 3 rfl) ?_
    refine hm_get S hK hM.pr cI5 (RS.c0 hR) 3 (by decide) w_2_103 rfl dX5_step_242 ?_
    refine lv_aload_n hx hb dX5_step_245 rfl (lv_at hl 3 rfl) ?_
    refine hm_get S hK hM.pr cI5 (RS.c0 hR) 11 (by decide) w_2_111 rfl dX5_step_246 ?_
    refine lv_iload_n hx hb dX5_step_249 rfl (lv_at hl 2 rfl) ?_
    refine hm_iald S hK hM.pr (RS.c10 hR) hh dX5_step_250 ?_
    refine hm_iald S hK hM.pr (RS.c3 hR) (in_lt (fun q => hH.1 (Or.inl q)) (Nat.lt_trans (in_cl hH.1) (by decide)) (by decide)) dX5_step_251 ?_
    refine hm_iald S hK hM.pr (RS.c1 hR) (by show vp_in (z.1 2 (slot 0 (z.1 8 (cl h)))) 600; exact in_lt htr.1 (Nat.lt_trans htq.1 (by decide)) (by decide)) dX5_step_252 ?_
    refine lv_topi (fun z6 hz6 => ?_)
    have hz6 : z6 = (nI qn) := by rw [hz6]; show z.1 1 (cl (z.1 2 (slot 0 (z.1 8 (cl h))))) = nI qn; exact hqne
    subst hz6
    refine lv_i2d hx hb dX5_step_253 ?_
    refine lv_dstore (lv' := [(7, .double (FP.i2d (nI qn))), (6, .int (nI (kk % 8))), (4, .double v2), (1, .int h), (0, .ref (a 0))]) hx hb dX5_step_254 hl (by decide) rfl (fun ls hl => ?_)
    refine lv_aload_n hx hb dX5_step_256 rfl (lv_at hl 4 rfl) ?_
    refine hm_get S hK hM.pr cI5 (RS.c0 hR) 15 (by decide) w_2_115 rfl dX5_step_257 ?_
    refine lv_iload_n hx hb dX5_step_260 rfl (lv_at hl 3 rfl) ?_
    refine hm_dald S hK hM.pr (RS.c14 hR) hh dX5_step_261 ?_
    refine lv_aload_n hx hb dX5_step_262 rfl (lv_at hl 4 rfl) ?_
    refine hm_get S hK hM.pr cI5 (RS.c0 hR) 14 (by decide) w_2_114 rfl dX5_step_263 ?_
    refine lv_iload_n hx hb dX5_step_266 rfl (lv_at hl 3 rfl) ?_
    refine hm_dald S hK hM.pr (RS.c13 hR) hh dX5_step_267 ?_
    refine lv_dadd hx hb dX5_step_268 (n64_fin hpr) ?_
    refine lv_dload hx hb dX5_step_269 (lv_at hl 0 rfl) ?_
    refine lv_drem hx hb dX5_step_271 (n64_fin hpd.1) ?_
    refine lv_topd (fun z7 hz7 => ?_)
    have hz7 : z7 = (FP.drem (FP.dadd (z.2.1 3 (cl h)) (z.2.1 2 (cl h))) (FP.i2d (nI qn))) := by rw [hz7]; rfl
    subst hz7
    refine lv_dstore (lv' := [(9, .double (FP.drem (FP.dadd (z.2.1 3 (cl h)) (z.2.1 2 (cl h))) (FP.i2d (nI qn)))), (7, .double (FP.i2d (nI qn))), (6, .int (nI (kk % 8))), (4, .double v2), (1, .int h), (0, .ref (a 0))]) hx hb dX5_step_272 hl (by decide) rfl (fun ls hl => ?_)
    refine lv_dload hx hb dX5_step_274 (lv_at hl 0 rfl) ?_
    refine lv_dconst0 hx hb dX5_step_276 ?_
    refine lv_dcmp hx hb dX5_step_277 ?_
    refine lv_if_ge (tgt := 289) hx hb dX5_step_278 (by decide) (fun c278 => ?_) (fun c278 => ?_)
    · replace c278 := (cv_dcmp_g_ge _ _).mp c278
      refine lv_dload hx hb dX5_step_289 (lv_at hl 0 rfl) ?_
      refine lv_dstore (lv' := [(9, .double (FP.drem (FP.dadd (z.2.1 3 (cl h)) (z.2.1 2 (cl h))) (FP.i2d (nI qn)))), (7, .double (FP.i2d (nI qn))), (6, .int (nI (kk % 8))), (4, .double v2), (1, .int h), (0, .ref (a 0))]) hx hb dX5_step_291 hl (by decide) rfl (fun ls hl => ?_)
      refine lv_aload_n hx hb dX5_step_293 rfl (lv_at hl 5 rfl) ?_
      refine hm_get S hK hM.pr cI5 (RS.c0 hR) 15 (by decide) w_2_115 rfl dX5_step_294 ?_
      refine lv_iload_n hx hb dX5_step_297 rfl (lv_at hl 4 rfl) ?_
      refine lv_dload hx hb dX5_step_298 (lv_at hl 0 rfl) ?_
      refine lv_dload hx hb dX5_step_300 (lv_at hl 1 rfl) ?_
      refine lv_dcmp hx hb dX5_step_302 ?_
      refine lv_if_ge (tgt := 311) hx hb dX5_step_303 (by decide) (fun h9 => absurd (rem_lt hpr hnP (Nat.mul_pos hqn0 (Nat.two_pow_pos _)) c278) ((cv_dcmp_g_ge _ _).mp h9)) (fun _ => ?_)
      refine lv_dload hx hb dX5_step_306 (lv_at hl 0 rfl) ?_
      refine lv_goto (tgt := 312) hx hb dX5_step_308 (by decide) ?_
      refine hm_dast S hK hM (RS.c14 hR) hh dX5_step_312 (fun H locs M8 hM8 hM => ?_)
      have hR := RS.u14 (k := (Int32.toNatClampNeg h)) (x := (FP.drem (FP.dadd (z.2.1 3 (cl h)) (z.2.1 2 (cl h))) (FP.i2d (nI qn)))) hR hM8
      refine lv_aload_n hx hb dX5_step_313 rfl (lv_at hl 5 rfl) ?_
      refine hm_get S hK hM.pr cI5 (RS.c0 hR) 16 (by decide) w_2_116 rfl dX5_step_314 ?_
      refine lv_iload_n hx hb dX5_step_317 rfl (lv_at hl 4 rfl) ?_
      refine lv_dup2_11 hx hb dX5_step_318 rfl rfl ?_
      refine hm_lald S hK hM.pr (RS.c15 hR) hh dX5_step_319 ?_
      refine lv_lconst (v := 1) hx hb dX5_step_320 (by decide) ?_
      refine lv_ladd hx hb dX5_step_321 ?_
      refine hm_last S hK hM (RS.c15 hR) hh dX5_step_322 (fun H locs M9 hM9 hM => ?_)
      have hR := RS.u15 (k := (Int32.toNatClampNeg h)) (x := (((setF (setF z 4 (kk % 8) (FP.f2d (heldf (FP.dadd (z.2.1 4 (kk % 8)) v2)))) 3 (Int32.toNatClampNeg h) (FP.drem (FP.dadd (z.2.1 3 (cl h)) (z.2.1 2 (cl h))) (FP.i2d (nI qn)))).2.2 0 (Int32.toNatClampNeg h)) + 1)) hR hM9
      refine lv_iconst (v := 0) hx hb dX5_step_323 (by decide) ?_
      refine mr_i S hM hr hlocks dX5_step_324 ⟨Nat.le_of_ble_eq_true rfl, Nat.le_of_ble_eq_true rfl⟩ ?_
      have hwp : wrapP (FP.drem (FP.dadd (z.2.1 3 (cl h)) (z.2.1 2 (cl h))) (FP.i2d (nI qn))) (FP.i2d (nI qn)) = (FP.drem (FP.dadd (z.2.1 3 (cl h)) (z.2.1 2 (cl h))) (FP.i2d (nI qn))) := (if_neg c278)
      have e9 : sp_step z (cl h) = (0, (setL (setF (setF z 4 (kk % 8) (FP.f2d (heldf (FP.dadd (z.2.1 4 (kk % 8)) v2)))) 3 (Int32.toNatClampNeg h) (FP.drem (FP.dadd (z.2.1 3 (cl h)) (z.2.1 2 (cl h))) (FP.i2d (nI qn)))) 0 (Int32.toNatClampNeg h) (((setF (setF z 4 (kk % 8) (FP.f2d (heldf (FP.dadd (z.2.1 4 (kk % 8)) v2)))) 3 (Int32.toNatClampNeg h) (FP.drem (FP.dadd (z.2.1 3 (cl h)) (z.2.1 2 (cl h))) (FP.i2d (nI qn)))).2.2 0 (Int32.toNatClampNeg h)) + 1))) := by rw [stW_ok hw0]; unfold stS; rw [hqne, hwp, show (z.2.2 0 (cl h)).toInt.toNat = kk from (by rw [hkk, pk_lT (by omega)]; rfl), ← hv2]; rfl
      rw [e9]
      exact ⟨rfl, hR⟩
    · replace c278 := (cv_dcmp_g_ge_n _ _).mp c278
      refine lv_dload hx hb dX5_step_281 (lv_at hl 0 rfl) ?_
      refine lv_dload hx hb dX5_step_283 (lv_at hl 1 rfl) ?_
      refine lv_dadd hx hb dX5_step_285 (n64_of (nn_add hpd.1 hnP.fin)) ?_
      refine lv_goto (tgt := 291) hx hb dX5_step_286 (by decide) ?_
      refine lv_dstore (lv' := [(9, .double (FP.dadd (FP.drem (FP.dadd (z.2.1 3 (cl h)) (z.2.1 2 (cl h))) (FP.i2d (nI qn))) (FP.i2d (nI qn)))), (7, .double (FP.i2d (nI qn))), (6, .int (nI (kk % 8))), (4, .double v2), (1, .int h), (0, .ref (a 0))]) hx hb dX5_step_291 hl (by decide) rfl (fun ls hl => ?_)
      refine lv_aload_n hx hb dX5_step_293 rfl (lv_at hl 5 rfl) ?_
      refine hm_get S hK hM.pr cI5 (RS.c0 hR) 15 (by decide) w_2_115 rfl dX5_step_294 ?_
      refine lv_iload_n hx hb dX5_step_297 rfl (lv_at hl 4 rfl) ?_
      refine lv_dload hx hb dX5_step_298 (lv_at hl 0 rfl) ?_
      refine lv_dload hx hb dX5_step_300 (lv_at hl 1 rfl) ?_
      refine lv_dcmp hx hb dX5_step_302 ?_
      refine lv_if_ge (tgt := 311) hx hb dX5_step_303 (by decide) (fun c303 => ?_) (fun c303 => ?_)
      · replace c303 := (cv_dcmp_g_ge _ _).mp c303
        refine lv_dconst0 hx hb dX5_step_311 ?_
        refine hm_dast S hK hM (RS.c14 hR) hh dX5_step_312 (fun H locs M10 hM10 hM => ?_)
        have hR := RS.u14 (k := (Int32.toNatClampNeg h)) (x := FP.dconst0) hR hM10
        refine lv_aload_n hx hb dX5_step_313 rfl (lv_at hl 5 rfl) ?_
        refine hm_get S hK hM.pr cI5 (RS.c0 hR) 16 (by decide) w_2_116 rfl dX5_step_314 ?_
        refine lv_iload_n hx hb dX5_step_317 rfl (lv_at hl 4 rfl) ?_
        refine lv_dup2_11 hx hb dX5_step_318 rfl rfl ?_
        refine hm_lald S hK hM.pr (RS.c15 hR) hh dX5_step_319 ?_
        refine lv_lconst (v := 1) hx hb dX5_step_320 (by decide) ?_
        refine lv_ladd hx hb dX5_step_321 ?_
        refine hm_last S hK hM (RS.c15 hR) hh dX5_step_322 (fun H locs M11 hM11 hM => ?_)
        have hR := RS.u15 (k := (Int32.toNatClampNeg h)) (x := (((setF (setF z 4 (kk % 8) (FP.f2d (heldf (FP.dadd (z.2.1 4 (kk % 8)) v2)))) 3 (Int32.toNatClampNeg h) FP.dconst0).2.2 0 (Int32.toNatClampNeg h)) + 1)) hR hM11
        refine lv_iconst (v := 0) hx hb dX5_step_323 (by decide) ?_
        refine mr_i S hM hr hlocks dX5_step_324 ⟨Nat.le_of_ble_eq_true rfl, Nat.le_of_ble_eq_true rfl⟩ ?_
        have hwp : wrapP (FP.drem (FP.dadd (z.2.1 3 (cl h)) (z.2.1 2 (cl h))) (FP.i2d (nI qn))) (FP.i2d (nI qn)) = FP.dconst0 := ((if_pos c278).trans (if_neg c303))
        have e9 : sp_step z (cl h) = (0, (setL (setF (setF z 4 (kk % 8) (FP.f2d (heldf (FP.dadd (z.2.1 4 (kk % 8)) v2)))) 3 (Int32.toNatClampNeg h) FP.dconst0) 0 (Int32.toNatClampNeg h) (((setF (setF z 4 (kk % 8) (FP.f2d (heldf (FP.dadd (z.2.1 4 (kk % 8)) v2)))) 3 (Int32.toNatClampNeg h) FP.dconst0).2.2 0 (Int32.toNatClampNeg h)) + 1))) := by rw [stW_ok hw0]; unfold stS; rw [hqne, hwp, show (z.2.2 0 (cl h)).toInt.toNat = kk from (by rw [hkk, pk_lT (by omega)]; rfl), ← hv2]; rfl
        rw [e9]
        exact ⟨rfl, hR⟩
      · replace c303 := (cv_dcmp_g_ge_n _ _).mp c303
        refine lv_dload hx hb dX5_step_306 (lv_at hl 0 rfl) ?_
        refine lv_goto (tgt := 312) hx hb dX5_step_308 (by decide) ?_
        refine hm_dast S hK hM (RS.c14 hR) hh dX5_step_312 (fun H locs M12 hM12 hM => ?_)
        have hR := RS.u14 (k := (Int32.toNatClampNeg h)) (x := (FP.dadd (FP.drem (FP.dadd (z.2.1 3 (cl h)) (z.2.1 2 (cl h))) (FP.i2d (nI qn))) (FP.i2d (nI qn)))) hR hM12
        refine lv_aload_n hx hb dX5_step_313 rfl (lv_at hl 5 rfl) ?_
        refine hm_get S hK hM.pr cI5 (RS.c0 hR) 16 (by decide) w_2_116 rfl dX5_step_314 ?_
        refine lv_iload_n hx hb dX5_step_317 rfl (lv_at hl 4 rfl) ?_
        refine lv_dup2_11 hx hb dX5_step_318 rfl rfl ?_
        refine hm_lald S hK hM.pr (RS.c15 hR) hh dX5_step_319 ?_
        refine lv_lconst (v := 1) hx hb dX5_step_320 (by decide) ?_
        refine lv_ladd hx hb dX5_step_321 ?_
        refine hm_last S hK hM (RS.c15 hR) hh dX5_step_322 (fun H locs M13 hM13 hM => ?_)
        have hR := RS.u15 (k := (Int32.toNatClampNeg h)) (x := (((setF (setF z 4 (kk % 8) (FP.f2d (heldf (FP.dadd (z.2.1 4 (kk % 8)) v2)))) 3 (Int32.toNatClampNeg h) (FP.dadd (FP.drem (FP.dadd (z.2.1 3 (cl h)) (z.2.1 2 (cl h))) (FP.i2d (nI qn))) (FP.i2d (nI qn)))).2.2 0 (Int32.toNatClampNeg h)) + 1)) hR hM13
        refine lv_iconst (v := 0) hx hb dX5_step_323 (by decide) ?_
        refine mr_i S hM hr hlocks dX5_step_324 ⟨Nat.le_of_ble_eq_true rfl, Nat.le_of_ble_eq_true rfl⟩ ?_
        have hwp : wrapP (FP.drem (FP.dadd (z.2.1 3 (cl h)) (z.2.1 2 (cl h))) (FP.i2d (nI qn))) (FP.i2d (nI qn)) = FP.dadd (FP.drem (FP.dadd (z.2.1 3 (cl h)) (z.2.1 2 (cl h))) (FP.i2d (nI qn))) (FP.i2d (nI qn)) := ((if_pos c278).trans (if_pos c303))
        have e9 : sp_step z (cl h) = (0, (setL (setF (setF z 4 (kk % 8) (FP.f2d (heldf (FP.dadd (z.2.1 4 (kk % 8)) v2)))) 3 (Int32.toNatClampNeg h) (FP.dadd (FP.drem (FP.dadd (z.2.1 3 (cl h)) (z.2.1 2 (cl h))) (FP.i2d (nI qn))) (FP.i2d (nI qn)))) 0 (Int32.toNatClampNeg h) (((setF (setF z 4 (kk % 8) (FP.f2d (heldf (FP.dadd (z.2.1 4 (kk % 8)) v2)))) 3 (Int32.toNatClampNeg h) (FP.dadd (FP.drem (FP.dadd (z.2.1 3 (cl h)) (z.2.1 2 (cl h))) (FP.i2d (nI qn))) (FP.i2d (nI qn)))).2.2 0 (Int32.toNatClampNeg h)) + 1))) := by rw [stW_ok hw0]; unfold stS; rw [hqne, hwp, show (z.2.2 0 (cl h)).toInt.toNat = kk from (by rw [hkk, pk_lT (by omega)]; rfl), ← hv2]; rfl
        rw [e9]
        exact ⟨rfl, hR⟩
  have tail1 : ∀ (v1 : UInt64), ask z 0 (z.1 8 (cl h)) (FP.d2i (z.2.1 3 (cl h))) = 0 → (¬ (¬ z.1 9 (cl h) < 0 ∧ z.1 2 (6 + cl (z.1 9 (cl h))) < 0)) → (¬ (¬ z.1 9 (cl h) < 0 ∧ z.1 1 (cl (z.1 2 (6 + cl (z.1 9 (cl h))))) = 0)) → v1 = stC z (cl h) (z.2.1 0 (itm z 0 (z.1 8 (cl h)) (FP.d2i (z.2.1 3 (cl h))))) → flo v1 → ∀ ls, lv_has ls 11 [(4, .double v1), (1, .int h), (0, .ref (a 0))] → W p l e ({ frames := 2, cells := 0, slots := 0, locals := 49 } : Room) s m args below meth c s.heap [] 0 0 (MQ below (mQi (fun rr MM => rr = (sp_step z (cl h)).1 ∧ RS cT a MM (sp_step z (cl h)).2) D M sz) args s 0 0 (FA M sz)) (F0 m 127 ls []) := by
    intro v1 hask hc1 hc2 hv1 hfl1 ls hl
    refine lv_iconst (v := 0) hx hb dX5_step_127 (by decide) ?_
    refine lv_istore (lv' := [(6, .int 0), (4, .double v1), (1, .int h), (0, .ref (a 0))]) hx hb dX5_step_128 hl (by decide) rfl (fun ls hl => ?_)
    refine lv_iload hx hb dX5_step_130 (lv_at hl 0 rfl) ?_
    refine lv_iconst (v := 3) hx hb dX5_step_132 (by decide) ?_
    refine lv_icmp_ge (tgt := 204) hx hb dX5_step_133 (by decide) (fun h => absurd h (by decide)) (fun _ => ?_)
    refine lv_aload_n hx hb dX5_step_136 rfl (lv_at hl 3 rfl) ?_
    refine hm_get S hK hM.pr cI5 (RS.c0 hR) 13 (by decide) w_2_113 rfl dX5_step_137 ?_
    refine lv_iload_n hx hb dX5_step_140 rfl (lv_at hl 2 rfl) ?_
    refine hm_iald S hK hM.pr (RS.c12 hR) hh dX5_step_141 ?_
    refine lv_if_lt (tgt := 204) hx hb dX5_step_142 (by decide) (fun c142 => ?_) (fun c142 => ?_)
    · skip
      have hW0 : stW z (cl h) = 0 := by unfold stW; rw [if_pos hask, if_neg hc1, if_neg hc2, if_neg (fun q => q.1 c142)]
      exact tail2 v1 hask hW0 (by unfold stV stR; rw [if_pos c142, ← hv1]) hfl1 ls (lv_sub hl [1, 2, 3] rfl)
    · skip
      have hrk : inR (z.1 10 (cl h)) 3 := hH.2.2.1.resolve_left (fun q => c142 (by rw [show z.1 10 (Int32.toNatClampNeg h) = -1 from q]; decide))
      refine lv_aload_n hx hb dX5_step_145 rfl (lv_at hl 3 rfl) ?_
      refine hm_get S hK hM.pr cI5 (RS.c0 hR) 8 (by decide) w_2_108 rfl dX5_step_146 ?_
      refine lv_aload_n hx hb dX5_step_149 rfl (lv_at hl 3 rfl) ?_
      refine hm_get S hK hM.pr cI5 (RS.c0 hR) 13 (by decide) w_2_113 rfl dX5_step_150 ?_
      refine lv_iload_n hx hb dX5_step_153 rfl (lv_at hl 2 rfl) ?_
      refine hm_iald S hK hM.pr (RS.c12 hR) hh dX5_step_154 ?_
      refine hm_iald S hK hM.pr (RS.c7 hR) hrk dX5_step_155 ?_
      refine lv_if_ge (tgt := 163) hx hb dX5_step_156 (by decide) (fun c156 => ?_) (fun c156 => ?_)
      · replace c156 := Int32.not_lt.mpr c156
        refine lv_aload_n hx hb dX5_step_163 rfl (lv_at hl 3 rfl) ?_
        refine hm_get S hK hM.pr cI5 (RS.c0 hR) 9 (by decide) w_2_109 rfl dX5_step_164 ?_
        refine lv_iconst (v := 3) hx hb dX5_step_167 (by decide) ?_
        refine lv_aload_n hx hb dX5_step_168 rfl (lv_at hl 3 rfl) ?_
        refine hm_get S hK hM.pr cI5 (RS.c0 hR) 13 (by decide) w_2_113 rfl dX5_step_169 ?_
        refine lv_iload_n hx hb dX5_step_172 rfl (lv_at hl 2 rfl) ?_
        refine hm_iald S hK hM.pr (RS.c12 hR) hh dX5_step_173 ?_
        refine lv_imul hx hb dX5_step_174 ?_
        refine lv_iload hx hb dX5_step_175 (lv_at hl 0 rfl) ?_
        refine lv_iadd hx hb dX5_step_177 ?_
        refine hm_iald S hK hM.pr (RS.c8 hR) (by show vp_in (3 * z.1 10 (cl h) + 0) 9; rw [show (0 : Int32) = nI 0 from rfl, (hk_ixn (i := 0) hrk (by decide)).1]; exact vp_in_nI (hk_ixn (i := 0) hrk (by decide)).2 (by decide)) dX5_step_178 ?_
        refine lv_topi (fun z14 hz14 => ?_)
        have hz14 : z14 = (z.1 6 (3 * cl (z.1 10 (cl h)))) := by rw [hz14]; exact congrArg (z.1 6) ((congrArg cl (show 3 * z.1 10 (cl h) + 0 = nI (3 * cl (z.1 10 (cl h)) + 0) from (by rw [show (0 : Int32) = nI 0 from rfl]; exact (hk_ixn (i := 0) hrk (by decide)).1))).trans (cl_nI (by have := (hk_ixn (i := 0) hrk (by decide)).2; omega)))
        subst hz14
        refine lv_istore (lv' := [(7, .int (z.1 6 (3 * cl (z.1 10 (cl h))))), (6, .int 0), (4, .double v1), (1, .int h), (0, .ref (a 0))]) hx hb dX5_step_179 hl (by decide) rfl (fun ls hl => ?_)
        refine lv_iload hx hb dX5_step_181 (lv_at hl 0 rfl) ?_
        refine lv_if_ge (tgt := 188) hx hb dX5_step_183 (by decide) (fun ce0 => ?_) (fun ce0 => ?_)
        · replace ce0 := Int32.not_lt.mpr ce0
          have hf0 := hI.hk hn (show 3 * cl (z.1 10 (cl h)) < 9 from (by have := (hk_ixn (i := 0) hrk (by decide)).2; omega)) ce0
          have hfm0 := mde_flo (z := z) (e := z.1 6 (3 * cl (z.1 10 (cl h)))) (v := v1) (mkv_nn hfl1 hf0.2.1 hf0.2.2)
          refine lv_aload_n hx hb dX5_step_188 rfl (lv_at hl 4 rfl) ?_
          refine lv_iload hx hb dX5_step_189 (lv_at hl 0 rfl) ?_
          refine lv_dload hx hb dX5_step_191 (lv_at hl 2 rfl) ?_
          refine pc_d (rV (rest := []) S hK hM.pr cI5 (RS.c0 hR) rfl (c_X5_made l D cT s.heap hM.pr hR hI hn (z.1 6 (3 * cl (z.1 10 (cl h)))) v1 ce0 hf0.1 hf0.2.1 hf0.2.2 hfl1) sm_X5_made w_S_12 w_3_17 ⟨Nat.le_of_ble_eq_true rfl, Nat.le_of_ble_eq_true rfl⟩ ⟨rfl, rfl⟩ rfl hl.1 rfl (Nat.le_of_ble_eq_true rfl) dX5_step_193 ⟨Nat.le_of_ble_eq_true rfl, Nat.le_of_ble_eq_true rfl⟩) (fun r15 hr15 => ?_)
          subst hr15
          refine lv_dstore (lv' := [(4, .double (mde z (z.1 6 (3 * cl (z.1 10 (cl h)))) v1)), (7, .int (z.1 6 (3 * cl (z.1 10 (cl h))))), (6, .int 0), (1, .int h), (0, .ref (a 0))]) hx hb dX5_step_196 hl (by decide) rfl (fun ls hl => ?_)
          refine lv_iinc (v := 1) (lv' := [(6, .int 1), (4, .double (mde z (z.1 6 (3 * cl (z.1 10 (cl h)))) v1)), (7, .int (z.1 6 (3 * cl (z.1 10 (cl h))))), (1, .int h), (0, .ref (a 0))]) hx hb dX5_step_198 hl (k := 2) rfl (by rfl) (by decide) rfl (fun ls hl => ?_)
          refine lv_goto (tgt := 130) hx hb dX5_step_201 (by decide) ?_
          refine lv_iload hx hb dX5_step_130 (lv_at hl 0 rfl) ?_
          refine lv_iconst (v := 3) hx hb dX5_step_132 (by decide) ?_
          refine lv_icmp_ge (tgt := 204) hx hb dX5_step_133 (by decide) (fun h => absurd h (by decide)) (fun _ => ?_)
          refine lv_aload_n hx hb dX5_step_136 rfl (lv_at hl 4 rfl) ?_
          refine hm_get S hK hM.pr cI5 (RS.c0 hR) 13 (by decide) w_2_113 rfl dX5_step_137 ?_
          refine lv_iload_n hx hb dX5_step_140 rfl (lv_at hl 3 rfl) ?_
          refine hm_iald S hK hM.pr (RS.c12 hR) hh dX5_step_141 ?_
          refine lv_if_lt (tgt := 204) hx hb dX5_step_142 (by decide) (fun h9 => absurd h9 c142) (fun _ => ?_)
          refine lv_aload_n hx hb dX5_step_145 rfl (lv_at hl 4 rfl) ?_
          refine hm_get S hK hM.pr cI5 (RS.c0 hR) 8 (by decide) w_2_108 rfl dX5_step_146 ?_
          refine lv_aload_n hx hb dX5_step_149 rfl (lv_at hl 4 rfl) ?_
          refine hm_get S hK hM.pr cI5 (RS.c0 hR) 13 (by decide) w_2_113 rfl dX5_step_150 ?_
          refine lv_iload_n hx hb dX5_step_153 rfl (lv_at hl 3 rfl) ?_
          refine hm_iald S hK hM.pr (RS.c12 hR) hh dX5_step_154 ?_
          refine hm_iald S hK hM.pr (RS.c7 hR) hrk dX5_step_155 ?_
          refine lv_if_ge (tgt := 163) hx hb dX5_step_156 (by decide) (fun _ => ?_) (fun h9 => absurd (Int32.not_le.mp h9) c156)
          refine lv_aload_n hx hb dX5_step_163 rfl (lv_at hl 4 rfl) ?_
          refine hm_get S hK hM.pr cI5 (RS.c0 hR) 9 (by decide) w_2_109 rfl dX5_step_164 ?_
          refine lv_iconst (v := 3) hx hb dX5_step_167 (by decide) ?_
          refine lv_aload_n hx hb dX5_step_168 rfl (lv_at hl 4 rfl) ?_
          refine hm_get S hK hM.pr cI5 (RS.c0 hR) 13 (by decide) w_2_113 rfl dX5_step_169 ?_
          refine lv_iload_n hx hb dX5_step_172 rfl (lv_at hl 3 rfl) ?_
          refine hm_iald S hK hM.pr (RS.c12 hR) hh dX5_step_173 ?_
          refine lv_imul hx hb dX5_step_174 ?_
          refine lv_iload hx hb dX5_step_175 (lv_at hl 0 rfl) ?_
          refine lv_iadd hx hb dX5_step_177 ?_
          refine hm_iald S hK hM.pr (RS.c8 hR) (by show vp_in (3 * z.1 10 (cl h) + 1) 9; rw [show (1 : Int32) = nI 1 from rfl, (hk_ixn (i := 1) hrk (by decide)).1]; exact vp_in_nI (hk_ixn (i := 1) hrk (by decide)).2 (by decide)) dX5_step_178 ?_
          refine lv_topi (fun z16 hz16 => ?_)
          have hz16 : z16 = (z.1 6 (3 * cl (z.1 10 (cl h)) + 1)) := by rw [hz16]; exact congrArg (z.1 6) ((congrArg cl (show 3 * z.1 10 (cl h) + 1 = nI (3 * cl (z.1 10 (cl h)) + 1) from (by rw [show (1 : Int32) = nI 1 from rfl]; exact (hk_ixn (i := 1) hrk (by decide)).1))).trans (cl_nI (by have := (hk_ixn (i := 1) hrk (by decide)).2; omega)))
          subst hz16
          refine lv_istore (lv' := [(7, .int (z.1 6 (3 * cl (z.1 10 (cl h)) + 1))), (6, .int 1), (4, .double (mde z (z.1 6 (3 * cl (z.1 10 (cl h)))) v1)), (1, .int h), (0, .ref (a 0))]) hx hb dX5_step_179 hl (by decide) rfl (fun ls hl => ?_)
          refine lv_iload hx hb dX5_step_181 (lv_at hl 0 rfl) ?_
          refine lv_if_ge (tgt := 188) hx hb dX5_step_183 (by decide) (fun ce1 => ?_) (fun ce1 => ?_)
          · replace ce1 := Int32.not_lt.mpr ce1
            have hf1 := hI.hk hn (show 3 * cl (z.1 10 (cl h)) + 1 < 9 from (by have := (hk_ixn (i := 1) hrk (by decide)).2; omega)) ce1
            have hfm1 := mde_flo (z := z) (e := z.1 6 (3 * cl (z.1 10 (cl h)) + 1)) (v := (mde z (z.1 6 (3 * cl (z.1 10 (cl h)))) v1)) (mkv_nn hfm0 hf1.2.1 hf1.2.2)
            refine lv_aload_n hx hb dX5_step_188 rfl (lv_at hl 4 rfl) ?_
            refine lv_iload hx hb dX5_step_189 (lv_at hl 0 rfl) ?_
            refine lv_dload hx hb dX5_step_191 (lv_at hl 2 rfl) ?_
            refine pc_d (rV (rest := []) S hK hM.pr cI5 (RS.c0 hR) rfl (c_X5_made l D cT s.heap hM.pr hR hI hn (z.1 6 (3 * cl (z.1 10 (cl h)) + 1)) (mde z (z.1 6 (3 * cl (z.1 10 (cl h)))) v1) ce1 hf1.1 hf1.2.1 hf1.2.2 hfm0) sm_X5_made w_S_12 w_3_17 ⟨Nat.le_of_ble_eq_true rfl, Nat.le_of_ble_eq_true rfl⟩ ⟨rfl, rfl⟩ rfl hl.1 rfl (Nat.le_of_ble_eq_true rfl) dX5_step_193 ⟨Nat.le_of_ble_eq_true rfl, Nat.le_of_ble_eq_true rfl⟩) (fun r17 hr17 => ?_)
            subst hr17
            refine lv_dstore (lv' := [(4, .double (mde z (z.1 6 (3 * cl (z.1 10 (cl h)) + 1)) (mde z (z.1 6 (3 * cl (z.1 10 (cl h)))) v1))), (7, .int (z.1 6 (3 * cl (z.1 10 (cl h)) + 1))), (6, .int 1), (1, .int h), (0, .ref (a 0))]) hx hb dX5_step_196 hl (by decide) rfl (fun ls hl => ?_)
            refine lv_iinc (v := 2) (lv' := [(6, .int 2), (4, .double (mde z (z.1 6 (3 * cl (z.1 10 (cl h)) + 1)) (mde z (z.1 6 (3 * cl (z.1 10 (cl h)))) v1))), (7, .int (z.1 6 (3 * cl (z.1 10 (cl h)) + 1))), (1, .int h), (0, .ref (a 0))]) hx hb dX5_step_198 hl (k := 2) rfl (by rfl) (by decide) rfl (fun ls hl => ?_)
            refine lv_goto (tgt := 130) hx hb dX5_step_201 (by decide) ?_
            refine lv_iload hx hb dX5_step_130 (lv_at hl 0 rfl) ?_
            refine lv_iconst (v := 3) hx hb dX5_step_132 (by decide) ?_
            refine lv_icmp_ge (tgt := 204) hx hb dX5_step_133 (by decide) (fun h => absurd h (by decide)) (fun _ => ?_)
            refine lv_aload_n hx hb dX5_step_136 rfl (lv_at hl 4 rfl) ?_
            refine hm_get S hK hM.pr cI5 (RS.c0 hR) 13 (by decide) w_2_113 rfl dX5_step_137 ?_
            refine lv_iload_n hx hb dX5_step_140 rfl (lv_at hl 3 rfl) ?_
            refine hm_iald S hK hM.pr (RS.c12 hR) hh dX5_step_141 ?_
            refine lv_if_lt (tgt := 204) hx hb dX5_step_142 (by decide) (fun h9 => absurd h9 c142) (fun _ => ?_)
            refine lv_aload_n hx hb dX5_step_145 rfl (lv_at hl 4 rfl) ?_
            refine hm_get S hK hM.pr cI5 (RS.c0 hR) 8 (by decide) w_2_108 rfl dX5_step_146 ?_
            refine lv_aload_n hx hb dX5_step_149 rfl (lv_at hl 4 rfl) ?_
            refine hm_get S hK hM.pr cI5 (RS.c0 hR) 13 (by decide) w_2_113 rfl dX5_step_150 ?_
            refine lv_iload_n hx hb dX5_step_153 rfl (lv_at hl 3 rfl) ?_
            refine hm_iald S hK hM.pr (RS.c12 hR) hh dX5_step_154 ?_
            refine hm_iald S hK hM.pr (RS.c7 hR) hrk dX5_step_155 ?_
            refine lv_if_ge (tgt := 163) hx hb dX5_step_156 (by decide) (fun _ => ?_) (fun h9 => absurd (Int32.not_le.mp h9) c156)
            refine lv_aload_n hx hb dX5_step_163 rfl (lv_at hl 4 rfl) ?_
            refine hm_get S hK hM.pr cI5 (RS.c0 hR) 9 (by decide) w_2_109 rfl dX5_step_164 ?_
            refine lv_iconst (v := 3) hx hb dX5_step_167 (by decide) ?_
            refine lv_aload_n hx hb dX5_step_168 rfl (lv_at hl 4 rfl) ?_
            refine hm_get S hK hM.pr cI5 (RS.c0 hR) 13 (by decide) w_2_113 rfl dX5_step_169 ?_
            refine lv_iload_n hx hb dX5_step_172 rfl (lv_at hl 3 rfl) ?_
            refine hm_iald S hK hM.pr (RS.c12 hR) hh dX5_step_173 ?_
            refine lv_imul hx hb dX5_step_174 ?_
            refine lv_iload hx hb dX5_step_175 (lv_at hl 0 rfl) ?_
            refine lv_iadd hx hb dX5_step_177 ?_
            refine hm_iald S hK hM.pr (RS.c8 hR) (by show vp_in (3 * z.1 10 (cl h) + 2) 9; rw [show (2 : Int32) = nI 2 from rfl, (hk_ixn (i := 2) hrk (by decide)).1]; exact vp_in_nI (hk_ixn (i := 2) hrk (by decide)).2 (by decide)) dX5_step_178 ?_
            refine lv_topi (fun z18 hz18 => ?_)
            have hz18 : z18 = (z.1 6 (3 * cl (z.1 10 (cl h)) + 2)) := by rw [hz18]; exact congrArg (z.1 6) ((congrArg cl (show 3 * z.1 10 (cl h) + 2 = nI (3 * cl (z.1 10 (cl h)) + 2) from (by rw [show (2 : Int32) = nI 2 from rfl]; exact (hk_ixn (i := 2) hrk (by decide)).1))).trans (cl_nI (by have := (hk_ixn (i := 2) hrk (by decide)).2; omega)))
            subst hz18
            refine lv_istore (lv' := [(7, .int (z.1 6 (3 * cl (z.1 10 (cl h)) + 2))), (6, .int 2), (4, .double (mde z (z.1 6 (3 * cl (z.1 10 (cl h)) + 1)) (mde z (z.1 6 (3 * cl (z.1 10 (cl h)))) v1))), (1, .int h), (0, .ref (a 0))]) hx hb dX5_step_179 hl (by decide) rfl (fun ls hl => ?_)
            refine lv_iload hx hb dX5_step_181 (lv_at hl 0 rfl) ?_
            refine lv_if_ge (tgt := 188) hx hb dX5_step_183 (by decide) (fun ce2 => ?_) (fun ce2 => ?_)
            · replace ce2 := Int32.not_lt.mpr ce2
              have hf2 := hI.hk hn (show 3 * cl (z.1 10 (cl h)) + 2 < 9 from (by have := (hk_ixn (i := 2) hrk (by decide)).2; omega)) ce2
              have hfm2 := mde_flo (z := z) (e := z.1 6 (3 * cl (z.1 10 (cl h)) + 2)) (v := (mde z (z.1 6 (3 * cl (z.1 10 (cl h)) + 1)) (mde z (z.1 6 (3 * cl (z.1 10 (cl h)))) v1))) (mkv_nn hfm1 hf2.2.1 hf2.2.2)
              refine lv_aload_n hx hb dX5_step_188 rfl (lv_at hl 4 rfl) ?_
              refine lv_iload hx hb dX5_step_189 (lv_at hl 0 rfl) ?_
              refine lv_dload hx hb dX5_step_191 (lv_at hl 2 rfl) ?_
              refine pc_d (rV (rest := []) S hK hM.pr cI5 (RS.c0 hR) rfl (c_X5_made l D cT s.heap hM.pr hR hI hn (z.1 6 (3 * cl (z.1 10 (cl h)) + 2)) (mde z (z.1 6 (3 * cl (z.1 10 (cl h)) + 1)) (mde z (z.1 6 (3 * cl (z.1 10 (cl h)))) v1)) ce2 hf2.1 hf2.2.1 hf2.2.2 hfm1) sm_X5_made w_S_12 w_3_17 ⟨Nat.le_of_ble_eq_true rfl, Nat.le_of_ble_eq_true rfl⟩ ⟨rfl, rfl⟩ rfl hl.1 rfl (Nat.le_of_ble_eq_true rfl) dX5_step_193 ⟨Nat.le_of_ble_eq_true rfl, Nat.le_of_ble_eq_true rfl⟩) (fun r19 hr19 => ?_)
              subst hr19
              refine lv_dstore (lv' := [(4, .double (mde z (z.1 6 (3 * cl (z.1 10 (cl h)) + 2)) (mde z (z.1 6 (3 * cl (z.1 10 (cl h)) + 1)) (mde z (z.1 6 (3 * cl (z.1 10 (cl h)))) v1)))), (7, .int (z.1 6 (3 * cl (z.1 10 (cl h)) + 2))), (6, .int 2), (1, .int h), (0, .ref (a 0))]) hx hb dX5_step_196 hl (by decide) rfl (fun ls hl => ?_)
              refine lv_iinc (v := 3) (lv' := [(6, .int 3), (4, .double (mde z (z.1 6 (3 * cl (z.1 10 (cl h)) + 2)) (mde z (z.1 6 (3 * cl (z.1 10 (cl h)) + 1)) (mde z (z.1 6 (3 * cl (z.1 10 (cl h)))) v1)))), (7, .int (z.1 6 (3 * cl (z.1 10 (cl h)) + 2))), (1, .int h), (0, .ref (a 0))]) hx hb dX5_step_198 hl (k := 2) rfl (by rfl) (by decide) rfl (fun ls hl => ?_)
              refine lv_goto (tgt := 130) hx hb dX5_step_201 (by decide) ?_
              refine lv_iload hx hb dX5_step_130 (lv_at hl 0 rfl) ?_
              refine lv_iconst (v := 3) hx hb dX5_step_132 (by decide) ?_
              refine lv_icmp_ge (tgt := 204) hx hb dX5_step_133 (by decide) (fun _ => ?_) (fun h => absurd (by decide) h)
              have hW0 : stW z (cl h) = 0 := by unfold stW; rw [if_pos hask, if_neg hc1, if_neg hc2, if_neg (fun q => by rcases q.2 with q | q | q | q; exact c156 q; exact ce0 q; exact ce1 q; exact ce2 q)]
              exact tail2 (mde z (z.1 6 (3 * cl (z.1 10 (cl h)) + 2)) (mde z (z.1 6 (3 * cl (z.1 10 (cl h)) + 1)) (mde z (z.1 6 (3 * cl (z.1 10 (cl h)))) v1))) hask hW0 (by unfold stV stR; rw [if_neg c142, ← hv1]) hfm2 ls (lv_sub hl [1, 3, 4] rfl)
            · replace ce2 := Int32.not_le.mp ce2
              refine lv_iconst (v := 1) hx hb dX5_step_186 (by decide) ?_
              refine mr_i S hM hr hlocks dX5_step_187 ⟨Nat.le_of_ble_eq_true rfl, Nat.le_of_ble_eq_true rfl⟩ ?_
              have e9 : sp_step z (cl h) = (1, z) := stW_fail (by unfold stW; rw [if_pos hask, if_neg hc1, if_neg hc2, if_pos ⟨c142, Or.inr (Or.inr (Or.inr ce2))⟩]) (by decide)
              rw [e9]
              exact ⟨rfl, hR⟩
          · replace ce1 := Int32.not_le.mp ce1
            refine lv_iconst (v := 1) hx hb dX5_step_186 (by decide) ?_
            refine mr_i S hM hr hlocks dX5_step_187 ⟨Nat.le_of_ble_eq_true rfl, Nat.le_of_ble_eq_true rfl⟩ ?_
            have e9 : sp_step z (cl h) = (1, z) := stW_fail (by unfold stW; rw [if_pos hask, if_neg hc1, if_neg hc2, if_pos ⟨c142, Or.inr (Or.inr (Or.inl ce1))⟩]) (by decide)
            rw [e9]
            exact ⟨rfl, hR⟩
        · replace ce0 := Int32.not_le.mp ce0
          refine lv_iconst (v := 1) hx hb dX5_step_186 (by decide) ?_
          refine mr_i S hM hr hlocks dX5_step_187 ⟨Nat.le_of_ble_eq_true rfl, Nat.le_of_ble_eq_true rfl⟩ ?_
          have e9 : sp_step z (cl h) = (1, z) := stW_fail (by unfold stW; rw [if_pos hask, if_neg hc1, if_neg hc2, if_pos ⟨c142, Or.inr (Or.inl ce0)⟩]) (by decide)
          rw [e9]
          exact ⟨rfl, hR⟩
      · replace c156 := Int32.not_le.mp c156
        refine lv_iconst (v := (-1)) hx hb dX5_step_159 (by decide) ?_
        refine lv_goto (tgt := 179) hx hb dX5_step_160 (by decide) ?_
        refine lv_istore (lv' := [(7, .int (-1)), (6, .int 0), (4, .double v1), (1, .int h), (0, .ref (a 0))]) hx hb dX5_step_179 hl (by decide) rfl (fun ls hl => ?_)
        refine lv_iload hx hb dX5_step_181 (lv_at hl 0 rfl) ?_
        refine lv_if_ge (tgt := 188) hx hb dX5_step_183 (by decide) (fun h => absurd h (by decide)) (fun _ => ?_)
        refine lv_iconst (v := 1) hx hb dX5_step_186 (by decide) ?_
        refine mr_i S hM hr hlocks dX5_step_187 ⟨Nat.le_of_ble_eq_true rfl, Nat.le_of_ble_eq_true rfl⟩ ?_
        have e9 : sp_step z (cl h) = (1, z) := stW_fail (by unfold stW; rw [if_pos hask, if_neg hc1, if_neg hc2, if_pos ⟨c142, Or.inl c156⟩]) (by decide)
        rw [e9]
        exact ⟨rfl, hR⟩
  refine lv_aload_n hx hb dX5_step_0 rfl (lv_at hl 0 rfl) ?_
  refine hm_get S hK hM.pr cI5 (RS.c0 hR) 15 (by decide) w_2_115 rfl dX5_step_1 ?_
  refine lv_iload_n hx hb dX5_step_4 rfl (lv_at hl 1 rfl) ?_
  refine hm_dald S hK hM.pr (RS.c14 hR) hh dX5_step_5 ?_
  refine lv_d2i hx hb dX5_step_6 ?_
  refine lv_istore_n (lv' := [(2, .int (FP.d2i (z.2.1 3 (Int32.toNatClampNeg h)))), (0, .ref (a 0)), (1, .int h)]) hx hb dX5_step_7 rfl hl (by decide) rfl (fun ls hl => ?_)
  refine lv_aload_n hx hb dX5_step_8 rfl (lv_at hl 1 rfl) ?_
  refine lv_iconst (v := 0) hx hb dX5_step_9 (by decide) ?_
  refine lv_aload_n hx hb dX5_step_10 rfl (lv_at hl 1 rfl) ?_
  refine hm_get S hK hM.pr cI5 (RS.c0 hR) 11 (by decide) w_2_111 rfl dX5_step_11 ?_
  refine lv_iload_n hx hb dX5_step_14 rfl (lv_at hl 2 rfl) ?_
  refine hm_iald S hK hM.pr (RS.c10 hR) hh dX5_step_15 ?_
  refine lv_iload_n hx hb dX5_step_16 rfl (lv_at hl 0 rfl) ?_
  refine pc_i (rV (rest := []) S hK hM.pr cI5 (RS.c0 hR) rfl (c_X5_asked l D cT s.heap hM.pr hR hI hn 0 (z.1 8 (Int32.toNatClampNeg h)) (FP.d2i (z.2.1 3 (Int32.toNatClampNeg h))) hH.1) sm_X5_asked w_S_10 w_2_196 ⟨Nat.le_of_ble_eq_true rfl, Nat.le_of_ble_eq_true rfl⟩ ⟨rfl, rfl⟩ rfl hl.1 rfl (Nat.le_of_ble_eq_true rfl) dX5_step_17 ⟨Nat.le_of_ble_eq_true rfl, Nat.le_of_ble_eq_true rfl⟩) (fun r20 hr20 => ?_)
  subst hr20
  refine lv_istore_n (lv' := [(3, .int (ask z 0 (z.1 8 (Int32.toNatClampNeg h)) (FP.d2i (z.2.1 3 (Int32.toNatClampNeg h))))), (2, .int (FP.d2i (z.2.1 3 (Int32.toNatClampNeg h)))), (0, .ref (a 0)), (1, .int h)]) hx hb dX5_step_20 rfl hl (by decide) rfl (fun ls hl => ?_)
  refine lv_iload_n hx hb dX5_step_21 rfl (lv_at hl 0 rfl) ?_
  refine lv_if_eq (tgt := 27) hx hb dX5_step_22 (by decide) (fun c22 => ?_) (fun c22 => ?_)
  · skip
    refine lv_aload_n hx hb dX5_step_27 rfl (lv_at hl 2 rfl) ?_
    refine lv_iconst (v := 0) hx hb dX5_step_28 (by decide) ?_
    refine lv_aload_n hx hb dX5_step_29 rfl (lv_at hl 2 rfl) ?_
    refine hm_get S hK hM.pr cI5 (RS.c0 hR) 11 (by decide) w_2_111 rfl dX5_step_30 ?_
    refine lv_iload_n hx hb dX5_step_33 rfl (lv_at hl 3 rfl) ?_
    refine hm_iald S hK hM.pr (RS.c10 hR) hh dX5_step_34 ?_
    refine lv_iload_n hx hb dX5_step_35 rfl (lv_at hl 1 rfl) ?_
    refine pc_d (rV (rest := []) S hK hM.pr cI5 (RS.c0 hR) rfl (c_X5_item l D cT s.heap hM.pr hR hI hn 0 (z.1 8 (Int32.toNatClampNeg h)) (FP.d2i (z.2.1 3 (Int32.toNatClampNeg h))) hH.1 c22) sm_X5_item w_S_11 w_2_216 ⟨Nat.le_of_ble_eq_true rfl, Nat.le_of_ble_eq_true rfl⟩ ⟨rfl, rfl⟩ rfl hl.1 rfl (Nat.le_of_ble_eq_true rfl) dX5_step_36 ⟨Nat.le_of_ble_eq_true rfl, Nat.le_of_ble_eq_true rfl⟩) (fun r21 hr21 => ?_)
    subst hr21
    have hix0 := itm_ix hI hn hH.1 c22
    have hv0 : flo (z.2.1 0 (itm z 0 (z.1 8 (cl h)) (FP.d2i (z.2.1 3 (cl h))))) := by have h7 := hI.itf (k := cl (z.1 8 (cl h))) (j := cl (FP.d2i (z.2.1 3 (cl h)))) (in_cl hH.1) (by rw [← hslot]; exact (ask_0 c22).1) hix0.2.2; rw [← hslot] at h7; exact h7
    refine lv_dstore (lv' := [(4, .double (z.2.1 0 (itm z 0 (z.1 8 (Int32.toNatClampNeg h)) (FP.d2i (z.2.1 3 (Int32.toNatClampNeg h)))))), (3, .int (ask z 0 (z.1 8 (Int32.toNatClampNeg h)) (FP.d2i (z.2.1 3 (Int32.toNatClampNeg h))))), (2, .int (FP.d2i (z.2.1 3 (Int32.toNatClampNeg h)))), (0, .ref (a 0)), (1, .int h)]) hx hb dX5_step_39 hl (by decide) rfl (fun ls hl => ?_)
    refine lv_aload_n hx hb dX5_step_41 rfl (lv_at hl 3 rfl) ?_
    refine hm_get S hK hM.pr cI5 (RS.c0 hR) 12 (by decide) w_2_112 rfl dX5_step_42 ?_
    refine lv_iload_n hx hb dX5_step_45 rfl (lv_at hl 4 rfl) ?_
    refine hm_iald S hK hM.pr (RS.c11 hR) hh dX5_step_46 ?_
    refine lv_if_lt (tgt := 127) hx hb dX5_step_47 (by decide) (fun c47 => ?_) (fun c47 => ?_)
    · skip
      exact tail1 _ c22 (fun q => q.1 c47) (fun q => q.1 c47) (by unfold stC; rw [if_pos c47]) hv0 ls (lv_sub hl [0, 4, 3] rfl)
    · skip
      have hcv : inR (z.1 9 (cl h)) 6 := hH.2.1.resolve_left (fun q => c47 (by rw [show z.1 9 (Int32.toNatClampNeg h) = -1 from q]; decide))
      have hcc := in_cl hcv
      have hc6 : 6 + z.1 9 (cl h) = nI (6 + cl (z.1 9 (cl h))) := by conv => lhs; rw [in_nI hcv (by decide), show (6 : Int32) = nI 6 from rfl, nI_add]
      refine lv_aload_n hx hb dX5_step_50 rfl (lv_at hl 3 rfl) ?_
      refine hm_get S hK hM.pr cI5 (RS.c0 hR) 3 (by decide) w_2_103 rfl dX5_step_51 ?_
      refine lv_bipush (v := 6) hx hb dX5_step_54 (by decide) ?_
      refine lv_aload_n hx hb dX5_step_56 rfl (lv_at hl 3 rfl) ?_
      refine hm_get S hK hM.pr cI5 (RS.c0 hR) 12 (by decide) w_2_112 rfl dX5_step_57 ?_
      refine lv_iload_n hx hb dX5_step_60 rfl (lv_at hl 4 rfl) ?_
      refine hm_iald S hK hM.pr (RS.c11 hR) hh dX5_step_61 ?_
      refine lv_iadd hx hb dX5_step_62 ?_
      refine hm_iald S hK hM.pr (RS.c3 hR) (by show vp_in (6 + z.1 9 (cl h)) 12; rw [hc6]; exact vp_in_nI (by omega) (by decide)) dX5_step_63 ?_
      refine lv_topi (fun z22 hz22 => ?_)
      have hz22 : z22 = (z.1 2 (6 + cl (z.1 9 (cl h)))) := by rw [hz22]; exact congrArg (z.1 2) ((congrArg cl hc6).trans (cl_nI (by omega)))
      subst hz22
      refine lv_istore (lv' := [(6, .int (z.1 2 (6 + cl (z.1 9 (cl h))))), (4, .double (z.2.1 0 (itm z 0 (z.1 8 (Int32.toNatClampNeg h)) (FP.d2i (z.2.1 3 (Int32.toNatClampNeg h)))))), (3, .int (ask z 0 (z.1 8 (Int32.toNatClampNeg h)) (FP.d2i (z.2.1 3 (Int32.toNatClampNeg h))))), (2, .int (FP.d2i (z.2.1 3 (Int32.toNatClampNeg h)))), (0, .ref (a 0)), (1, .int h)]) hx hb dX5_step_64 hl (by decide) rfl (fun ls hl => ?_)
      refine lv_iload hx hb dX5_step_66 (lv_at hl 0 rfl) ?_
      refine lv_if_lt (tgt := 81) hx hb dX5_step_68 (by decide) (fun c68 => ?_) (fun c68 => ?_)
      · skip
        refine lv_iload hx hb dX5_step_81 (lv_at hl 0 rfl) ?_
        refine lv_if_ge (tgt := 90) hx hb dX5_step_83 (by decide) (fun h9 => absurd c68 (Int32.not_lt.mpr h9)) (fun _ => ?_)
        refine lv_iconst (v := 1) hx hb dX5_step_86 (by decide) ?_
        refine lv_goto (tgt := 91) hx hb dX5_step_87 (by decide) ?_
        refine mr_i S hM hr hlocks dX5_step_91 ⟨Nat.le_of_ble_eq_true rfl, Nat.le_of_ble_eq_true rfl⟩ ?_
        have e9 : sp_step z (cl h) = (1, z) := stW_fail (by unfold stW; exact (if_pos c22).trans (if_pos ⟨c47, c68⟩)) (by decide)
        rw [e9]
        exact ⟨rfl, hR⟩
      · skip
        have hrw := hI.sl hn (show 6 + cl (z.1 9 (cl h)) < 12 by omega) c68
        refine lv_aload_n hx hb dX5_step_71 rfl (lv_at hl 4 rfl) ?_
        refine hm_get S hK hM.pr cI5 (RS.c0 hR) 1 (by decide) w_2_101 rfl dX5_step_72 ?_
        refine lv_iload hx hb dX5_step_75 (lv_at hl 0 rfl) ?_
        refine hm_iald S hK hM.pr (RS.c1 hR) (in_lt c68 (Nat.lt_trans hrw.1 (by decide)) (by decide)) dX5_step_77 ?_
        refine lv_if_ne (tgt := 92) hx hb dX5_step_78 (by decide) (fun c78 => ?_) (fun c78 => ?_)
        · skip
          have hq16 := in_cl hrw.2
          obtain ⟨q, hq0, hq1, hqe⟩ : ∃ q, 0 < q ∧ q < 17 ∧ z.1 1 (cl (z.1 2 (6 + cl (z.1 9 (cl h))))) = nI q := ⟨_, Nat.pos_of_ne_zero (fun w => c78 (by show z.1 1 (cl (z.1 2 (6 + cl (z.1 9 (cl h))))) = 0; rw [in_nI hrw.2 (by decide), w]; rfl)), hq16, in_nI hrw.2 (by decide)⟩
          have hkq : kk % q < 16 := by have := Nat.mod_lt kk hq0; omega
          have hix : 16 * z.1 2 (6 + cl (z.1 9 (cl h))) + nI (kk % q) = nI (16 * cl (z.1 2 (6 + cl (z.1 9 (cl h)))) + kk % q) := by conv => lhs; rw [(pos_nI c68).1, show (16 : Int32) = nI 16 from rfl, pk_mul, nI_add]
          have hfc := hI.it (show 6 + cl (z.1 9 (cl h)) < 12 by omega) c68 hkq
          have hrl := hrw.1
          refine lv_dload hx hb dX5_step_92 (lv_at hl 1 rfl) ?_
          refine lv_aload_n hx hb dX5_step_94 rfl (lv_at hl 4 rfl) ?_
          refine hm_get S hK hM.pr cI5 (RS.c0 hR) 2 (by decide) w_2_102 rfl dX5_step_95 ?_
          refine lv_bipush (v := 16) hx hb dX5_step_98 (by decide) ?_
          refine lv_iload hx hb dX5_step_100 (lv_at hl 0 rfl) ?_
          refine lv_imul hx hb dX5_step_102 ?_
          refine lv_aload_n hx hb dX5_step_103 rfl (lv_at hl 4 rfl) ?_
          refine hm_get S hK hM.pr cI5 (RS.c0 hR) 16 (by decide) w_2_116 rfl dX5_step_104 ?_
          refine lv_iload_n hx hb dX5_step_107 rfl (lv_at hl 5 rfl) ?_
          refine hm_lald S hK hM.pr (RS.c15 hR) hh dX5_step_108 ?_
          refine lv_aload_n hx hb dX5_step_109 rfl (lv_at hl 4 rfl) ?_
          refine hm_get S hK hM.pr cI5 (RS.c0 hR) 1 (by decide) w_2_101 rfl dX5_step_110 ?_
          refine lv_iload hx hb dX5_step_113 (lv_at hl 0 rfl) ?_
          refine hm_iald S hK hM.pr (RS.c1 hR) (in_lt c68 (Nat.lt_trans hrw.1 (by decide)) (by decide)) dX5_step_115 ?_
          refine lv_i2l hx hb dX5_step_116 rfl ?_
          refine lv_lrem hx hb dX5_step_117 (by rw [show (z.1 1 (Int32.toNatClampNeg (z.1 2 (6 + cl (z.1 9 (cl h)))))) = nI q from hqe, nI_l (by omega)]; intro w; have := lN_inj (b := 0) (by omega) (by decide) w; omega) ?_
          refine lv_topl (fun z23 hz23 => ?_)
          have hz23 : z23 = (lN (kk % q)) := by rw [hz23]; rw [show (z.2.2 0 (Int32.toNatClampNeg h)) = lN kk from hkk, show (z.1 1 (Int32.toNatClampNeg (z.1 2 (6 + cl (z.1 9 (cl h)))))) = nI q from hqe, nI_l (by omega)]; exact lrem_n (by omega) hq0 (by omega)
          subst hz23
          refine lv_l2i hx hb dX5_step_118 rfl ?_
          refine lv_topi (fun z24 hz24 => ?_)
          have hz24 : z24 = (nI (kk % q)) := by rw [hz24]; exact lN_i _
          subst hz24
          refine lv_iadd hx hb dX5_step_119 ?_
          refine hm_dald S hK hM.pr (RS.c2 hR) (by show vp_in (16 * z.1 2 (6 + cl (z.1 9 (cl h))) + nI (kk % q)) 9600; rw [hix]; exact vp_in_nI (by omega) (by decide)) dX5_step_120 ?_
          refine lv_topd (fun z25 hz25 => ?_)
          have hz25 : z25 = (z.2.1 0 (16 * cl (z.1 2 (6 + cl (z.1 9 (cl h)))) + kk % q)) := by rw [hz25]; exact congrArg (z.2.1 0) ((congrArg cl hix).trans (cl_nI (by omega)))
          subst hz25
          refine lv_dmul hx hb dX5_step_121 (n64_of (nn_mul (flo_fin hv0) hfc)) ?_
          refine pc_d (rS (rest := []) S hK (c_X5_held l D cT s.heap (FP.dmul (z.2.1 0 (itm z 0 (z.1 8 (Int32.toNatClampNeg h)) (FP.d2i (z.2.1 3 (Int32.toNatClampNeg h))))) (z.2.1 0 (16 * cl (z.1 2 (6 + cl (z.1 9 (cl h)))) + kk % q))) (nn_mul (flo_fin hv0) hfc)) sm_X5_held w_3_21 ⟨Nat.le_of_ble_eq_true rfl, Nat.le_of_ble_eq_true rfl⟩ ⟨rfl, rfl⟩ rfl hl.1 rfl (Nat.le_of_ble_eq_true rfl) dX5_step_122 ⟨Nat.le_of_ble_eq_true rfl, Nat.le_of_ble_eq_true rfl⟩) (fun r26 hr26 => ?_)
          subst hr26
          refine lv_dstore (lv' := [(4, .double (FP.f2d (heldf (FP.dmul (z.2.1 0 (itm z 0 (z.1 8 (Int32.toNatClampNeg h)) (FP.d2i (z.2.1 3 (Int32.toNatClampNeg h))))) (z.2.1 0 (16 * cl (z.1 2 (6 + cl (z.1 9 (cl h)))) + kk % q)))))), (6, .int (z.1 2 (6 + cl (z.1 9 (cl h))))), (3, .int (ask z 0 (z.1 8 (Int32.toNatClampNeg h)) (FP.d2i (z.2.1 3 (Int32.toNatClampNeg h))))), (2, .int (FP.d2i (z.2.1 3 (Int32.toNatClampNeg h)))), (0, .ref (a 0)), (1, .int h)]) hx hb dX5_step_125 hl (by decide) rfl (fun ls hl => ?_)
          exact tail1 _ c22 (fun q => c68 q.2) (fun q => c78 q.2) (by unfold stC; rw [if_neg c47, hqe, cl_nI (by omega), show (z.2.2 0 (cl h)).toInt.toNat = kk from (by rw [hkk, pk_lT (by omega)]; rfl)]) (f2d_flo (heldf_fin (nn_mul (flo_fin hv0) hfc))) ls (lv_sub hl [0, 5, 4] rfl)
        · skip
          refine lv_iload hx hb dX5_step_81 (lv_at hl 0 rfl) ?_
          refine lv_if_ge (tgt := 90) hx hb dX5_step_83 (by decide) (fun _ => ?_) (fun h9 => absurd (Int32.not_le.mp h9) c68)
          refine lv_iconst (v := 2) hx hb dX5_step_90 (by decide) ?_
          refine mr_i S hM hr hlocks dX5_step_91 ⟨Nat.le_of_ble_eq_true rfl, Nat.le_of_ble_eq_true rfl⟩ ?_
          have e9 : sp_step z (cl h) = (2, z) := stW_fail (by unfold stW; exact (if_pos c22).trans ((if_neg (fun q => c68 q.2)).trans (if_pos ⟨c47, c78⟩))) (by decide)
          rw [e9]
          exact ⟨rfl, hR⟩
  · skip
    refine lv_iload_n hx hb dX5_step_25 rfl (lv_at hl 0 rfl) ?_
    refine mr_i S hM hr hlocks dX5_step_26 ⟨Nat.le_of_ble_eq_true rfl, Nat.le_of_ble_eq_true rfl⟩ ?_
    have e9 : sp_step z (cl h) = ((ask z 0 (z.1 8 (Int32.toNatClampNeg h)) (FP.d2i (z.2.1 3 (Int32.toNatClampNeg h)))), z) := stW_fail (by unfold stW; exact if_neg c22) c22
    rw [e9]
    exact ⟨rfl, hR⟩
