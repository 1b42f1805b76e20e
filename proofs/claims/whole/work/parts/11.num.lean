theorem no2100 {pt : UInt64} {B k : Nat} (h0 : 0 < B) (hk : 2098 ≤ k) : ¬ P64 pt (B * 2 ^ k) := by
  intro h
  have h1 := h.rep.form.1
  have h2 : 2 ^ 2098 ≤ 2 ^ k := Nat.pow_le_pow_right (by decide) hk
  have h3 : 1 * 2 ^ k ≤ B * 2 ^ k := Nat.mul_le_mul_right _ h0
  rw [Nat.one_mul] at h3
  exact absurd h1 (Nat.not_lt.mpr (Nat.le_trans h2 h3))
theorem dbl_P {pt lf : UInt64} {B k a hh : Nat} (hpt : P64 pt (B * 2 ^ k)) (hlf : P64 lf a) (h1 : B * 2 ^ k ≤ hh) (h2 : 2 * hh ≤ a + 1) : P64 (FP.dmul pt d2) (B * 2 ^ (k + 1)) := by
  have e : B * 2 ^ (k + 1) = B * 2 ^ k * 2 ^ 1 := by rw [Nat.pow_succ, ← Nat.mul_assoc]
  have ha := hlf.rep.form.1
  have hr : Rep (B * 2 ^ k * 2 ^ 1) := by
    rcases Nat.lt_or_ge (B * 2 ^ k * 2 ^ 1) (2 ^ 2098) with h | h
    · exact hpt.rep.shl h
    · exfalso
      rw [Nat.pow_one] at h
      have e1 : a + 1 = 2 ^ 2098 := by omega
      obtain ⟨c, j, hc, hcj⟩ := hlf.rep.form.2
      have e2 : c * 2 ^ j + 1 = 2 ^ 2098 := by rw [← hcj]; exact e1
      cases j with
      | zero => rw [Nat.pow_zero, Nat.mul_one] at e2; rw [show (2 : Nat) ^ 2098 = 2 ^ 53 * 2 ^ 2045 by rw [← Nat.pow_add]] at e2; have : 2 ^ 53 * 1 ≤ 2 ^ 53 * 2 ^ 2045 := Nat.mul_le_mul_left _ (Nat.two_pow_pos _); omega
      | succ i => rw [Nat.pow_succ, ← Nat.mul_assoc, show (2 : Nat) ^ 2098 = 2 ^ 2097 * 2 by rw [← Nat.pow_succ]] at e2; omega
  rw [e]
  refine hpt.mul P64.two hr ?_
  rw [Nat.mul_assoc (B * 2 ^ k) (2 ^ 1), ← Nat.pow_add]
theorem sub_mul_mod {a B q : Nat} (h : B * 2 ^ q ≤ a) : (a - B * 2 ^ q) % B = (a - B) % B := by
  have h1 : B ≤ a := Nat.le_trans (Nat.le_mul_of_pos_right _ (Nat.two_pow_pos q)) h
  rw [← Nat.mod_eq_sub_mod h1]
  have : a = (a - B * 2 ^ q) + B * 2 ^ q := by omega
  conv => rhs; rw [this]
  rw [Nat.add_mul_mod_self_left]
theorem lt_of_zero {x w : UInt64} {b : Nat} (hx : fin64 x) (hw : P64 w b) (hb : 0 < b) (h0 : zmg x = 0) : dLt x w := by
  rw [dlt_iff hx hw.fin, hw.zval, zv_eq hx, h0]
  by_cases hs : 9223372036854775808 ≤ x.toNat
  · rw [if_pos hs]; omega
  · rw [if_neg hs]; omega
theorem sz_lt {x w : UInt64} {b : Nat} (hx : fin64 x) (hw : P64 w b) (h : dLt (szf x) w) : zmg x < b := by
  by_cases h0 : zmg x = 0
  · rw [szf_0 hx h0] at h
    rw [dlt_iff hx hw.fin, hw.zval, zv_eq hx, h0] at h
    by_cases hs : 9223372036854775808 ≤ x.toNat
    · rw [if_pos hs] at h; omega
    · rw [if_neg hs] at h; omega
  · exact ((szf_P hx (by omega)).lt hw).mp h
set_option maxHeartbeats 4000000 in
set_option maxRecDepth 100000 in
theorem c_X2_rest (l : Launch) (D : va_G) (cT : Nat → ClassId) (H : Heap) (x y : UInt64) (hx2 : fin64 x) (hy : fin64 y) (h0 : 0 < zmg y) : Met l yX2_rest (wz yX2_rest cX2_rest 12 (some .double)) ({ frames := 1, cells := 0, slots := 0, locals := 21 } : Room) (pP D cT [.double x, .double y] H) (qd (fun r => r = FP.drem x y) H) 0 0 (fun _ => False) := by
  refine mk_p (by decide +kernel) (Nat.le_of_ble_eq_true rfl) ?_
  intro p e s m args below meth c S hK hs hr hlocks ls hl
  have hx := S.1
  have hb := S.2.1
  have hml := S.2.2.1
  have hown := S.2.2.2.1
  have hts := S.2.2.2.2
  have hl : lv_has ls 12 [(0, .double x), (2, .double y)] := hl
  have hle : P64 (szf y) (zmg y) := szf_P hy h0
  have loop2 : ∀ (k : Nat), k < 2098 → 0 < zmg x → ∀ (q i : Nat) (pt lf : UInt64) (a : Nat), i + q = k + 1 → P64 lf a → a % zmg y = zmg x % zmg y → (q = 0 → a < zmg y) → (∀ q1, q = q1 + 1 → P64 pt (zmg y * 2 ^ q1) ∧ a < 2 * (zmg y * 2 ^ q1)) → fin64 pt → ∀ ls, lv_has ls 12 [(11, .int (nI i)), (10, .int (nI k)), (8, .double pt), (6, .double lf), (0, .double x)] → W p l e ({ frames := 1, cells := 0, slots := 0, locals := 21 } : Room) s m args below meth c H [] 0 0 (MQ below (qd (fun r => r = FP.drem x y) H) args s 0 0 (fun _ => False)) (F0 m 73 ls []) := by
    intro k hk hx0 q
    induction q with
    | zero =>
      intro i pt lf a hi hlf hmod hz _ hfp ls hl
      have hi : i = k + 1 := by omega
      subst hi
      have ha : zmg x % zmg y = a := by rw [← hmod]; exact Nat.mod_eq_of_lt (hz rfl)
      have hbig := drem_big hx2 hy h0 hx0 (by rw [ha]; exact hlf)
      refine lv_iload hx hb dX2_rest_73 (lv_at hl 0 rfl) ?_
      refine lv_iload hx hb dX2_rest_75 (lv_at hl 1 rfl) ?_
      refine lv_icmp_gt (tgt := 109) hx hb dX2_rest_77 (by decide) (fun _ => ?_) (fun h => absurd (nI_lt (by omega) (by omega)) h)
      refine lv_dload_n hx hb dX2_rest_109 rfl (lv_at hl 4 rfl) ?_
      refine lv_dconst0 hx hb dX2_rest_110 ?_
      refine lv_dcmp hx hb dX2_rest_111 ?_
      refine lv_if_ge (tgt := 121) hx hb dX2_rest_112 (by decide) (fun c112 => ?_) (fun c112 => ?_)
      · replace c112 := (cv_dcmp_g_ge _ _).mp c112
        refine lv_dload hx hb dX2_rest_121 (lv_at hl 3 rfl) ?_
        refine pr_d S hs hr hlocks dX2_rest_123 ?_
        first | (rw [if_neg c112] at hbig; exact hbig) | (rw [if_pos c112] at hbig; exact hbig)
      · replace c112 := (cv_dcmp_g_ge_n _ _).mp c112
        refine lv_dload hx hb dX2_rest_115 (lv_at hl 3 rfl) ?_
        refine lv_dneg hx hb dX2_rest_117 ?_
        refine lv_goto (tgt := 123) hx hb dX2_rest_118 (by decide) ?_
        refine pr_d S hs hr hlocks dX2_rest_123 ?_
        first | (rw [if_neg c112] at hbig; exact hbig) | (rw [if_pos c112] at hbig; exact hbig)
    | succ q ih =>
      intro i pt lf a hi hlf hmod _ hs1 hfp ls hl
      obtain ⟨hpt, hal⟩ := hs1 q rfl
      have tail : ∀ (l3 : UInt64) (a3 : Nat), P64 l3 a3 → a3 % zmg y = zmg x % zmg y → a3 < zmg y * 2 ^ q → ∀ ls, lv_has ls 12 [(11, .int (nI i)), (10, .int (nI k)), (8, .double pt), (6, .double l3), (0, .double x)] → W p l e ({ frames := 1, cells := 0, slots := 0, locals := 21 } : Room) s m args below meth c H [] 0 0 (MQ below (qd (fun r => r = FP.drem x y) H) args s 0 0 (fun _ => False)) (F0 m 95 ls []) := by
        intro l3 a3 hl3 hmod3 hlt3 ls hl
        obtain ⟨hh, hhP, hh1, hh2⟩ := hpt.half
        refine lv_dload hx hb dX2_rest_95 (lv_at hl 2 rfl) ?_
        refine lv_ldc2d hx hb hown (hts _ w_1_24) dX2_rest_97 ?_
        refine lv_ddiv hx hb dX2_rest_100 (n64_fin hhP.fin) ?_
        refine lv_dstore (lv' := [(8, .double (FP.ddiv pt 4611686018427387904)), (11, .int (nI i)), (10, .int (nI k)), (6, .double l3), (0, .double x)]) hx hb dX2_rest_101 hl (by decide) rfl (fun ls hl => ?_)
        refine lv_iinc (v := (nI i) + 1) (lv' := [(11, .int ((nI i) + 1)), (8, .double (FP.ddiv pt 4611686018427387904)), (10, .int (nI k)), (6, .double l3), (0, .double x)]) hx hb dX2_rest_103 hl (k := 1) rfl (by rfl) (by decide) rfl (fun ls hl => ?_)
        refine lv_goto (tgt := 73) hx hb dX2_rest_106 (by decide) ?_
        refine ih (i + 1) _ l3 a3 (by omega) hl3 hmod3 (fun e => by subst e; rw [Nat.pow_zero, Nat.mul_one] at hlt3; exact hlt3) (fun q1 e => ?_) hhP.fin ls ?_
        · subst e
          have e2 : zmg y * 2 ^ (q1 + 1) = 2 * (zmg y * 2 ^ q1) := by rw [Nat.pow_succ, ← Nat.mul_assoc, Nat.mul_comm]
          rw [e2] at hh1 hh2 hlt3
          have e3 : hh = zmg y * 2 ^ q1 := by omega
          rw [← e3]
          exact ⟨hhP, by rw [e3]; exact hlt3⟩
        · rw [← nI_1]; exact lv_sub hl [0, 2, 1, 3, 4] rfl
      refine lv_iload hx hb dX2_rest_73 (lv_at hl 0 rfl) ?_
      refine lv_iload hx hb dX2_rest_75 (lv_at hl 1 rfl) ?_
      refine lv_icmp_gt (tgt := 109) hx hb dX2_rest_77 (by decide) (fun h => absurd h (nI_nlt (by omega) (by omega))) (fun _ => ?_)
      refine lv_dload hx hb dX2_rest_80 (lv_at hl 3 rfl) ?_
      refine lv_dload hx hb dX2_rest_82 (lv_at hl 2 rfl) ?_
      refine lv_dcmp hx hb dX2_rest_84 ?_
      refine lv_if_lt (tgt := 95) hx hb dX2_rest_85 (by decide) (fun c85 => ?_) (fun c85 => ?_)
      · replace c85 := (cv_dcmp_l_lt _ _).mp c85
        exact tail lf a hlf hmod (Nat.not_le.mp (fun q => c85 ((hlf.ge hpt).mpr q))) ls (lv_sub hl [0, 1, 2, 3, 4] rfl)
      · replace c85 := (cv_dcmp_l_lt_n _ _).mp c85
        have hge : zmg y * 2 ^ q ≤ a := (hlf.ge hpt).mp c85
        have hsb := hlf.sub hpt hge (hlf.rep.sub hpt.rep hge hal)
        refine lv_dload hx hb dX2_rest_88 (lv_at hl 3 rfl) ?_
        refine lv_dload hx hb dX2_rest_90 (lv_at hl 2 rfl) ?_
        refine lv_dsub hx hb dX2_rest_92 (n64_fin hsb.fin) ?_
        refine lv_dstore (lv' := [(6, .double (FP.dsub lf pt)), (11, .int (nI i)), (10, .int (nI k)), (8, .double pt), (0, .double x)]) hx hb dX2_rest_93 hl (by decide) rfl (fun ls hl => ?_)
        exact tail _ _ hsb (by rw [Nat.mod_eq_sub_mod (Nat.le_trans (Nat.le_mul_of_pos_right _ (Nat.two_pow_pos q)) hge)] at hmod; rw [← hmod]; exact sub_mul_mod hge) (by omega) ls (lv_sub hl [1, 2, 3, 0, 4] rfl)
  have loop1 : 0 < zmg x → ∀ (n k : Nat) (pt : UInt64), n + k = 2100 → P64 pt (zmg y * 2 ^ k) → ∀ ls, lv_has ls 12 [(10, .int (nI k)), (8, .double pt), (6, .double (szf x)), (0, .double x)] → W p l e ({ frames := 1, cells := 0, slots := 0, locals := 21 } : Room) s m args below meth c H [] 0 0 (MQ below (qd (fun r => r = FP.drem x y) H) args s 0 0 (fun _ => False)) (F0 m 36 ls []) := by
    intro hx0 n
    have hlf := szf_P hx2 hx0
    induction n with
    | zero =>
      intro k pt hk hpt
      exact absurd hpt (no2100 h0 (by omega))
    | succ n ih =>
      intro k pt hk hpt ls hl
      have hk2 : k < 2098 := Nat.not_le.mp (fun q => no2100 h0 q hpt)
      obtain ⟨hh, hhP, hh1, hh2⟩ := hlf.half
      refine lv_iload hx hb dX2_rest_36 (lv_at hl 0 rfl) ?_
      refine lv_sipush (v := 2100) hx hb dX2_rest_38 (by decide) ?_
      refine lv_icmp_ge (tgt := 70) hx hb dX2_rest_41 (by decide) (fun h => absurd h (nI_ge (by omega) (by decide) : ¬ nI 2100 ≤ nI k)) (fun _ => ?_)
      refine lv_dload hx hb dX2_rest_44 (lv_at hl 1 rfl) ?_
      refine lv_dload hx hb dX2_rest_46 (lv_at hl 2 rfl) ?_
      refine lv_ldc2d hx hb hown (hts _ w_1_24) dX2_rest_48 ?_
      refine lv_ddiv hx hb dX2_rest_51 (n64_fin hhP.fin) ?_
      refine lv_dcmp hx hb dX2_rest_52 ?_
      refine lv_if_gt (tgt := 70) hx hb dX2_rest_53 (by decide) (fun c53 => ?_) (fun c53 => ?_)
      · replace c53 := (cv_dcmp_g_gt _ _).mp c53
        refine lv_iconst (v := 0) hx hb dX2_rest_70 (by decide) ?_
        refine lv_istore (lv' := [(11, .int 0), (10, .int (nI k)), (8, .double pt), (6, .double (szf x)), (0, .double x)]) hx hb dX2_rest_71 hl (by decide) rfl (fun ls hl => ?_)
        exact loop2 k hk2 hx0 (k + 1) 0 pt (szf x) (zmg x) (by omega) hlf rfl (fun e => by omega) (fun q1 e => by cases e; exact ⟨hpt, by have hq : ¬ zmg y * 2 ^ k ≤ hh := (fun q => c53 ((hpt.le hhP).mpr q)); omega⟩) hpt.fin ls (lv_sub hl [0, 1, 2, 3, 4] rfl)
      · replace c53 := (cv_dcmp_g_gt_n _ _).mp c53
        have hle2 : zmg y * 2 ^ k ≤ hh := (hpt.le hhP).mp c53
        have hdb := dbl_P hpt hlf hle2 hh2
        refine lv_dload hx hb dX2_rest_56 (lv_at hl 1 rfl) ?_
        refine lv_ldc2d hx hb hown (hts _ w_1_24) dX2_rest_58 ?_
        refine lv_dmul hx hb dX2_rest_61 (n64_fin hdb.fin) ?_
        refine lv_dstore (lv' := [(8, .double (FP.dmul pt 4611686018427387904)), (10, .int (nI k)), (6, .double (szf x)), (0, .double x)]) hx hb dX2_rest_62 hl (by decide) rfl (fun ls hl => ?_)
        refine lv_iinc (v := (nI k) + 1) (lv' := [(10, .int ((nI k) + 1)), (8, .double (FP.dmul pt 4611686018427387904)), (6, .double (szf x)), (0, .double x)]) hx hb dX2_rest_64 hl (k := 1) rfl (by rfl) (by decide) rfl (fun ls hl => ?_)
        refine lv_goto (tgt := 36) hx hb dX2_rest_67 (by decide) ?_
        exact ih (k + 1) _ (by omega) hdb ls (by rw [← nI_1]; exact lv_sub hl [0, 1, 2, 3] rfl)
  refine lv_dload_n hx hb dX2_rest_0 rfl (lv_at hl 1 rfl) ?_
  refine pc_d (rS (rest := []) S hK (c_X2_sizeOf l D cT H y) sm_X2_sizeOf w_1_142 ⟨Nat.le_of_ble_eq_true rfl, Nat.le_of_ble_eq_true rfl⟩ ⟨rfl, rfl⟩ rfl hl.1 rfl (Nat.le_of_ble_eq_true rfl) dX2_rest_1 ⟨Nat.le_of_ble_eq_true rfl, Nat.le_of_ble_eq_true rfl⟩) (fun r1 hr1 => ?_)
  subst hr1
  refine lv_dstore (lv' := [(4, .double (szf y)), (0, .double x), (2, .double y)]) hx hb dX2_rest_4 hl (by decide) rfl (fun ls hl => ?_)
  refine lv_dload_n hx hb dX2_rest_6 rfl (lv_at hl 1 rfl) ?_
  refine pc_d (rS (rest := []) S hK (c_X2_sizeOf l D cT H x) sm_X2_sizeOf w_1_142 ⟨Nat.le_of_ble_eq_true rfl, Nat.le_of_ble_eq_true rfl⟩ ⟨rfl, rfl⟩ rfl hl.1 rfl (Nat.le_of_ble_eq_true rfl) dX2_rest_7 ⟨Nat.le_of_ble_eq_true rfl, Nat.le_of_ble_eq_true rfl⟩) (fun r2 hr2 => ?_)
  subst hr2
  refine lv_dstore (lv' := [(6, .double (szf x)), (4, .double (szf y)), (0, .double x), (2, .double y)]) hx hb dX2_rest_10 hl (by decide) rfl (fun ls hl => ?_)
  refine lv_dload hx hb dX2_rest_12 (lv_at hl 1 rfl) ?_
  refine lv_dconst0 hx hb dX2_rest_14 ?_
  refine lv_dcmp hx hb dX2_rest_15 ?_
  refine lv_if_eq (tgt := 27) hx hb dX2_rest_16 (by decide) (fun h => absurd ((hle.eq P64.dc0).mp ((cv_dcmp_l_eq _ _).mp h)) (Nat.pos_iff_ne_zero.mp h0)) (fun _ => ?_)
  refine lv_dload hx hb dX2_rest_19 (lv_at hl 0 rfl) ?_
  refine lv_dload hx hb dX2_rest_21 (lv_at hl 1 rfl) ?_
  refine lv_dcmp hx hb dX2_rest_23 ?_
  refine lv_if_ge (tgt := 29) hx hb dX2_rest_24 (by decide) (fun c24 => ?_) (fun c24 => ?_)
  · replace c24 := (cv_dcmp_g_ge _ _).mp c24
    refine lv_dload hx hb dX2_rest_29 (lv_at hl 1 rfl) ?_
    refine lv_dstore (lv' := [(8, .double (szf y)), (6, .double (szf x)), (4, .double (szf y)), (0, .double x), (2, .double y)]) hx hb dX2_rest_31 hl (by decide) rfl (fun ls hl => ?_)
    refine lv_iconst (v := 0) hx hb dX2_rest_33 (by decide) ?_
    refine lv_istore (lv' := [(10, .int 0), (8, .double (szf y)), (6, .double (szf x)), (4, .double (szf y)), (0, .double x), (2, .double y)]) hx hb dX2_rest_34 hl (by decide) rfl (fun ls hl => ?_)
    have hx0 : 0 < zmg x := Nat.pos_of_ne_zero (fun z => c24 (by rw [szf_0 hx2 z]; exact lt_of_zero hx2 hle h0 z))
    exact loop1 hx0 2100 0 _ rfl (by rw [Nat.pow_zero, Nat.mul_one]; exact hle) ls (lv_sub hl [0, 1, 2, 4] rfl)
  · replace c24 := (cv_dcmp_g_ge_n _ _).mp c24
    refine lv_dload_n hx hb dX2_rest_27 rfl (lv_at hl 2 rfl) ?_
    refine pr_d S hs hr hlocks dX2_rest_28 ?_
    exact (drem_small hx2 hy (sz_lt hx2 hle c24)).symm
