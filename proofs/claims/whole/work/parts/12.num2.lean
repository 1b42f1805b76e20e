abbrev rD (f : Nat → UInt64) : (Nat → Int32) ⊕ (Nat → Int64) ⊕ (Nat → UInt32) ⊕ (Nat → UInt64) ⊕ (Nat → Option Nat) := .inr (.inr (.inr (.inl f)))
abbrev rF (f : Nat → UInt32) : (Nat → Int32) ⊕ (Nat → Int64) ⊕ (Nat → UInt32) ⊕ (Nat → UInt64) ⊕ (Nat → Option Nat) := .inr (.inr (.inl f))
abbrev rL (f : Nat → Int64) : (Nat → Int32) ⊕ (Nat → Int64) ⊕ (Nat → UInt32) ⊕ (Nat → UInt64) ⊕ (Nat → Option Nat) := .inr (.inl f)
abbrev rI (f : Nat → Int32) : (Nat → Int32) ⊕ (Nat → Int64) ⊕ (Nat → UInt32) ⊕ (Nat → UInt64) ⊕ (Nat → Option Nat) := .inl f
abbrev rQ (f : Nat → Option Nat) : (Nat → Int32) ⊕ (Nat → Int64) ⊕ (Nat → UInt32) ⊕ (Nat → UInt64) ⊕ (Nat → Option Nat) := .inr (.inr (.inr (.inr f)))
/-- the class's table of powers -/
def NUM (cT : Nat → ClassId) (M : hmp) (nb ua da : Nat) (fu fd : Nat → UInt64) : Prop := M nb = some (.inr (2, [.ref ua, .ref da])) ∧ M ua = some (.inl (cT 0, 10, rD fu)) ∧ M da = some (.inl (cT 0, 10, rD fd)) ∧ (∀ i, i < 10 → fu i = upf i) ∧ ∀ i, i < 10 → fd i = dnf i
theorem s_l10 : ∀ n, n < 10 → ((nI n &&& 31).toBitVec.smod 32).toNat = n := by decide +kernel
theorem sh_bit {n i : Nat} (hn : n < 2 ^ 31) (hi : i < 10) : ((nI n >>> (nI i &&& 31)) &&& 1) = nI (n / 2 ^ i % 2) := by
  rw [pk_shrN hn _ i (s_l10 i hi)]
  have h := pk_andN (n := n / 2 ^ i) (by have := Nat.div_le_self n (2 ^ i); omega) (m := 1) 1 (by decide)
  rw [h]
theorem nI_bit {b : Nat} (hb : b < 2) : nI b = 0 ↔ b = 0 := nI_eq (b := 0) (by omega) (by omega)
theorem i32_neg {x : Int32} (h : ¬ 0 ≤ x) (h2 : -2 ^ 31 < x.toInt) : ∃ n : Nat, x.toInt = -(n : Int) ∧ 0 - x = nI n := by
  have h1 : x.toInt < 0 := by rw [Int32.le_iff_toInt_le] at h; have : (0 : Int32).toInt = 0 := by decide
                              omega
  refine ⟨(-x.toInt).toNat, by omega, ?_⟩
  apply Int32.toInt_inj.mp
  rw [Int32.toInt_sub, nI_toInt (by omega)]
  have e0 : (0 : Int32).toInt = 0 := by decide
  rw [e0, show ((0 : Int) - x.toInt) = ((-x.toInt).toNat : Int) by omega]
  exact Int.bmod_eq_of_le (by omega) (by omega)
theorem i32_pos {x : Int32} (h : 0 ≤ x) : ∃ n : Nat, x.toInt = (n : Int) ∧ x = nI n ∧ n < 2 ^ 31 := by
  obtain ⟨n, hn, rfl⟩ := nI_of (x := x) (Int32.not_lt.mpr h)
  exact ⟨n, nI_toInt hn, rfl, hn⟩
set_option maxHeartbeats 4000000 in
set_option maxRecDepth 100000 in
theorem c_X2_powerOfTwo (l : Launch) (D : va_G) (cT : Nat → ClassId) (H : Heap) {M : hmp} {nb ua da : Nat} {fu fd : Nat → UInt64} (hP : HPr D M H) (hN : NUM cT M nb ua da fu fd) (ex : Int32) (he : -1022 ≤ ex.toInt ∧ ex.toInt ≤ 1023) : Met l yX2_powerOfTwo (wz yX2_powerOfTwo cX2_powerOfTwo 7 (some .double)) ({ frames := 1, cells := 0, slots := 0, locals := 24 } : Room) (pP D cT [.ref nb, .int ex] H) (qd (fun r => P64 r (2 ^ (1074 + ex.toInt).toNat)) H) 0 0 (fun _ => False) := by
  refine mk_p (by decide +kernel) (Nat.le_of_ble_eq_true rfl) ?_
  intro p e s m args below meth c S hK hs hr hlocks ls hl
  have hx := S.1
  have hb := S.2.1
  have hml := S.2.2.1
  have hown := S.2.2.2.1
  have hts := S.2.2.2.2
  have hl : lv_has ls 7 [(0, .ref nb), (1, .int ex)] := hl
  obtain ⟨hN0, hN1, hN2, hfu, hfd⟩ := id hN
  refine lv_iload_n hx hb dX2_powerOfTwo_0 rfl (lv_at hl 1 rfl) ?_
  refine lv_if_ge (tgt := 11) hx hb dX2_powerOfTwo_1 (by decide) (fun c1 => ?_) (fun c1 => ?_)
  · skip
    refine lv_aload_n hx hb dX2_powerOfTwo_11 rfl (lv_at hl 0 rfl) ?_
    refine hm_get S hK hP cI2 hN0 0 (by decide) w_1_25 rfl dX2_powerOfTwo_12 ?_
    obtain ⟨n, hex, hexn, hn31⟩ := i32_pos c1
    have hn : n ≤ 1023 := by omega
    have loop : ∀ (k i : Nat) (pw : UInt64), k + i = 10 → P64 pw (2 ^ (1074 + n % 2 ^ i)) → ∀ ls, lv_has ls 7 [(6, .int (nI i)), (4, .double pw), (3, .int (nI n)), (2, .ref ua)] → W p l e ({ frames := 1, cells := 0, slots := 0, locals := 24 } : Room) s m args below meth c H [] 0 0 (MQ below (qd (fun r => P64 r (2 ^ (1074 + ex.toInt).toNat)) H) args s 0 0 (fun _ => False)) (F0 m 27 ls []) := by
      intro k
      induction k with
      | zero =>
        intro i pw hi hpw ls hl
        have hi : i = 10 := by omega
        subst hi
        refine lv_iload hx hb dX2_powerOfTwo_27 (lv_at hl 0 rfl) ?_
        refine lv_bipush (v := 10) hx hb dX2_powerOfTwo_29 (by decide) ?_
        refine lv_icmp_ge (tgt := 58) hx hb dX2_powerOfTwo_31 (by decide) (fun _ => ?_) (fun h => absurd (by decide) h)
        refine lv_dload hx hb dX2_powerOfTwo_58 (lv_at hl 1 rfl) ?_
        refine pr_d S hs hr hlocks dX2_powerOfTwo_60 ?_
        rw [Nat.mod_eq_of_lt (show n < 2 ^ 10 by omega)] at hpw
        rw [hex]
        have e9 : (1074 + (n : Int)).toNat = 1074 + n := by omega
        rw [e9]
        exact hpw
      | succ k ih =>
        intro i pw hi hpw ls hl
        have hi2 : i < 10 := by omega
        have hms := mod_step n i
        have hp2 := pow_lt10 hi2
        have hml2 := Nat.mod_le n (2 ^ (i + 1))
        refine lv_iload hx hb dX2_powerOfTwo_27 (lv_at hl 0 rfl) ?_
        refine lv_bipush (v := 10) hx hb dX2_powerOfTwo_29 (by decide) ?_
        refine lv_icmp_ge (tgt := 58) hx hb dX2_powerOfTwo_31 (by decide) (fun h => absurd h (nI_ge hi2 (by decide) : ¬ nI 10 ≤ nI i)) (fun _ => ?_)
        refine lv_iload_n hx hb dX2_powerOfTwo_34 rfl (lv_at hl 2 rfl) ?_
        refine lv_iload hx hb dX2_powerOfTwo_35 (lv_at hl 0 rfl) ?_
        refine lv_ishr hx hb dX2_powerOfTwo_37 ?_
        refine lv_iconst (v := 1) hx hb dX2_powerOfTwo_38 (by decide) ?_
        refine lv_iand hx hb dX2_powerOfTwo_39 ?_
        refine lv_if_eq (tgt := 52) hx hb dX2_powerOfTwo_40 (by decide) (fun c40 => ?_) (fun c40 => ?_)
        · skip
          refine lv_iinc (v := (nI i) + 1) (lv' := [(6, .int ((nI i) + 1)), (4, .double pw), (3, .int (nI n)), (2, .ref ua)]) hx hb dX2_powerOfTwo_52 hl (k := 0) rfl (by rfl) (by decide) rfl (fun ls hl => ?_)
          refine lv_goto (tgt := 27) hx hb dX2_powerOfTwo_55 (by decide) ?_
          rw [sh_bit (by omega) hi2, nI_bit (Nat.mod_lt _ (by decide))] at c40
          rw [c40, Nat.mul_zero, Nat.add_zero] at hms
          exact ih (i + 1) pw (by omega) (by rw [hms]; exact hpw) ls (by rw [← nI_1]; exact lv_sub hl [0, 1, 2, 3] rfl)
        · skip
          rw [sh_bit (by omega) hi2, nI_bit (Nat.mod_lt _ (by decide))] at c40
          have hb1 : n / 2 ^ i % 2 = 1 := by omega
          rw [hb1, Nat.mul_one] at hms
          have hst := pow_step_up hpw hi2 (by omega)
          refine lv_dload hx hb dX2_powerOfTwo_43 (lv_at hl 1 rfl) ?_
          refine lv_aload_n hx hb dX2_powerOfTwo_45 rfl (lv_at hl 3 rfl) ?_
          refine lv_iload hx hb dX2_powerOfTwo_46 (lv_at hl 0 rfl) ?_
          refine hm_dald S hK hP hN1 (vp_in_nI (by omega) (by decide)) dX2_powerOfTwo_48 ?_
          refine lv_topd (fun z1 hz1 => ?_)
          have hz1 : z1 = (upf i) := by rw [hz1]; rw [nI_clamp (by omega)]; exact hfu i (by omega)
          subst hz1
          refine lv_dmul hx hb dX2_powerOfTwo_49 (n64_fin hst.fin) ?_
          refine lv_dstore (lv' := [(4, .double (FP.dmul pw (upf i))), (6, .int (nI i)), (3, .int (nI n)), (2, .ref ua)]) hx hb dX2_powerOfTwo_50 hl (by decide) rfl (fun ls hl => ?_)
          refine lv_iinc (v := (nI i) + 1) (lv' := [(6, .int ((nI i) + 1)), (4, .double (FP.dmul pw (upf i))), (3, .int (nI n)), (2, .ref ua)]) hx hb dX2_powerOfTwo_52 hl (k := 1) rfl (by rfl) (by decide) rfl (fun ls hl => ?_)
          refine lv_goto (tgt := 27) hx hb dX2_powerOfTwo_55 (by decide) ?_
          exact ih (i + 1) _ (by omega) (by rw [hms]; exact hst) ls (by rw [← nI_1]; exact lv_sub hl [0, 1, 2, 3] rfl)
    refine lv_astore_n (lv' := [(2, .ref ua), (0, .ref nb), (1, .int ex)]) hx hb dX2_powerOfTwo_15 rfl hl (by decide) rfl (fun ls hl => ?_)
    refine lv_iload_n hx hb dX2_powerOfTwo_16 rfl (lv_at hl 2 rfl) ?_
    refine va_mabs hx hb (hml.trans hl.1.symm) hown (hts _ w_1_124) (hts _ w_1_125) (hts _ w_1_4) (hts _ w_1_126) (Nat.le_of_ble_eq_true rfl) (Nat.le_of_ble_eq_true rfl) (Nat.le_of_ble_eq_true rfl) (Nat.le_of_ble_eq_true rfl) dX2_powerOfTwo_17 ?_
    refine lv_topi (fun z2 hz2 => ?_)
    have hz2 : z2 = (nI n) := by rw [hz2]; rw [if_pos c1]; exact hexn
    subst hz2
    refine lv_istore_n (lv' := [(3, .int (nI n)), (2, .ref ua), (0, .ref nb), (1, .int ex)]) hx hb dX2_powerOfTwo_20 rfl hl (by decide) rfl (fun ls hl => ?_)
    refine lv_dconst1 hx hb dX2_powerOfTwo_21 ?_
    refine lv_dstore (lv' := [(4, .double FP.dconst1), (3, .int (nI n)), (2, .ref ua), (0, .ref nb), (1, .int ex)]) hx hb dX2_powerOfTwo_22 hl (by decide) rfl (fun ls hl => ?_)
    refine lv_iconst (v := 0) hx hb dX2_powerOfTwo_24 (by decide) ?_
    refine lv_istore (lv' := [(6, .int 0), (4, .double FP.dconst1), (3, .int (nI n)), (2, .ref ua), (0, .ref nb), (1, .int ex)]) hx hb dX2_powerOfTwo_25 hl (by decide) rfl (fun ls hl => ?_)
    exact loop 10 0 _ rfl (by rw [Nat.pow_zero, Nat.mod_one]; exact P64.one) ls (lv_sub hl [0, 1, 2, 3] rfl)
  · skip
    refine lv_aload_n hx hb dX2_powerOfTwo_4 rfl (lv_at hl 0 rfl) ?_
    refine hm_get S hK hP cI2 hN0 1 (by decide) w_1_26 rfl dX2_powerOfTwo_5 ?_
    refine lv_goto (tgt := 15) hx hb dX2_powerOfTwo_8 (by decide) ?_
    obtain ⟨n, hex, hexn⟩ := i32_neg c1 (by omega)
    have hn : n ≤ 1022 := by omega
    have loop : ∀ (k i : Nat) (pw : UInt64), k + i = 10 → P64 pw (2 ^ (1074 - n % 2 ^ i)) → ∀ ls, lv_has ls 7 [(6, .int (nI i)), (4, .double pw), (3, .int (nI n)), (2, .ref da)] → W p l e ({ frames := 1, cells := 0, slots := 0, locals := 24 } : Room) s m args below meth c H [] 0 0 (MQ below (qd (fun r => P64 r (2 ^ (1074 + ex.toInt).toNat)) H) args s 0 0 (fun _ => False)) (F0 m 27 ls []) := by
      intro k
      induction k with
      | zero =>
        intro i pw hi hpw ls hl
        have hi : i = 10 := by omega
        subst hi
        refine lv_iload hx hb dX2_powerOfTwo_27 (lv_at hl 0 rfl) ?_
        refine lv_bipush (v := 10) hx hb dX2_powerOfTwo_29 (by decide) ?_
        refine lv_icmp_ge (tgt := 58) hx hb dX2_powerOfTwo_31 (by decide) (fun _ => ?_) (fun h => absurd (by decide) h)
        refine lv_dload hx hb dX2_powerOfTwo_58 (lv_at hl 1 rfl) ?_
        refine pr_d S hs hr hlocks dX2_powerOfTwo_60 ?_
        rw [Nat.mod_eq_of_lt (show n < 2 ^ 10 by omega)] at hpw
        rw [hex]
        have e9 : (1074 + -(n : Int)).toNat = 1074 - n := by omega
        rw [e9]
        exact hpw
      | succ k ih =>
        intro i pw hi hpw ls hl
        have hi2 : i < 10 := by omega
        have hms := mod_step n i
        have hp2 := pow_lt10 hi2
        have hml2 := Nat.mod_le n (2 ^ (i + 1))
        refine lv_iload hx hb dX2_powerOfTwo_27 (lv_at hl 0 rfl) ?_
        refine lv_bipush (v := 10) hx hb dX2_powerOfTwo_29 (by decide) ?_
        refine lv_icmp_ge (tgt := 58) hx hb dX2_powerOfTwo_31 (by decide) (fun h => absurd h (nI_ge hi2 (by decide) : ¬ nI 10 ≤ nI i)) (fun _ => ?_)
        refine lv_iload_n hx hb dX2_powerOfTwo_34 rfl (lv_at hl 2 rfl) ?_
        refine lv_iload hx hb dX2_powerOfTwo_35 (lv_at hl 0 rfl) ?_
        refine lv_ishr hx hb dX2_powerOfTwo_37 ?_
        refine lv_iconst (v := 1) hx hb dX2_powerOfTwo_38 (by decide) ?_
        refine lv_iand hx hb dX2_powerOfTwo_39 ?_
        refine lv_if_eq (tgt := 52) hx hb dX2_powerOfTwo_40 (by decide) (fun c40 => ?_) (fun c40 => ?_)
        · skip
          refine lv_iinc (v := (nI i) + 1) (lv' := [(6, .int ((nI i) + 1)), (4, .double pw), (3, .int (nI n)), (2, .ref da)]) hx hb dX2_powerOfTwo_52 hl (k := 0) rfl (by rfl) (by decide) rfl (fun ls hl => ?_)
          refine lv_goto (tgt := 27) hx hb dX2_powerOfTwo_55 (by decide) ?_
          rw [sh_bit (by omega) hi2, nI_bit (Nat.mod_lt _ (by decide))] at c40
          rw [c40, Nat.mul_zero, Nat.add_zero] at hms
          exact ih (i + 1) pw (by omega) (by rw [hms]; exact hpw) ls (by rw [← nI_1]; exact lv_sub hl [0, 1, 2, 3] rfl)
        · skip
          rw [sh_bit (by omega) hi2, nI_bit (Nat.mod_lt _ (by decide))] at c40
          have hb1 : n / 2 ^ i % 2 = 1 := by omega
          rw [hb1, Nat.mul_one] at hms
          have hst := pow_step_dn hpw hi2 (by omega)
          refine lv_dload hx hb dX2_powerOfTwo_43 (lv_at hl 1 rfl) ?_
          refine lv_aload_n hx hb dX2_powerOfTwo_45 rfl (lv_at hl 3 rfl) ?_
          refine lv_iload hx hb dX2_powerOfTwo_46 (lv_at hl 0 rfl) ?_
          refine hm_dald S hK hP hN2 (vp_in_nI (by omega) (by decide)) dX2_powerOfTwo_48 ?_
          refine lv_topd (fun z3 hz3 => ?_)
          have hz3 : z3 = (dnf i) := by rw [hz3]; rw [nI_clamp (by omega)]; exact hfd i (by omega)
          subst hz3
          refine lv_dmul hx hb dX2_powerOfTwo_49 (n64_fin hst.fin) ?_
          refine lv_dstore (lv' := [(4, .double (FP.dmul pw (dnf i))), (6, .int (nI i)), (3, .int (nI n)), (2, .ref da)]) hx hb dX2_powerOfTwo_50 hl (by decide) rfl (fun ls hl => ?_)
          refine lv_iinc (v := (nI i) + 1) (lv' := [(6, .int ((nI i) + 1)), (4, .double (FP.dmul pw (dnf i))), (3, .int (nI n)), (2, .ref da)]) hx hb dX2_powerOfTwo_52 hl (k := 1) rfl (by rfl) (by decide) rfl (fun ls hl => ?_)
          refine lv_goto (tgt := 27) hx hb dX2_powerOfTwo_55 (by decide) ?_
          exact ih (i + 1) _ (by omega) (by rw [hms]; exact hst) ls (by rw [← nI_1]; exact lv_sub hl [0, 1, 2, 3] rfl)
    refine lv_astore_n (lv' := [(2, .ref da), (0, .ref nb), (1, .int ex)]) hx hb dX2_powerOfTwo_15 rfl hl (by decide) rfl (fun ls hl => ?_)
    refine lv_iload_n hx hb dX2_powerOfTwo_16 rfl (lv_at hl 2 rfl) ?_
    refine va_mabs hx hb (hml.trans hl.1.symm) hown (hts _ w_1_124) (hts _ w_1_125) (hts _ w_1_4) (hts _ w_1_126) (Nat.le_of_ble_eq_true rfl) (Nat.le_of_ble_eq_true rfl) (Nat.le_of_ble_eq_true rfl) (Nat.le_of_ble_eq_true rfl) dX2_powerOfTwo_17 ?_
    refine lv_topi (fun z4 hz4 => ?_)
    have hz4 : z4 = (nI n) := by rw [hz4]; rw [if_neg c1]; exact hexn
    subst hz4
    refine lv_istore_n (lv' := [(3, .int (nI n)), (2, .ref da), (0, .ref nb), (1, .int ex)]) hx hb dX2_powerOfTwo_20 rfl hl (by decide) rfl (fun ls hl => ?_)
    refine lv_dconst1 hx hb dX2_powerOfTwo_21 ?_
    refine lv_dstore (lv' := [(4, .double FP.dconst1), (3, .int (nI n)), (2, .ref da), (0, .ref nb), (1, .int ex)]) hx hb dX2_powerOfTwo_22 hl (by decide) rfl (fun ls hl => ?_)
    refine lv_iconst (v := 0) hx hb dX2_powerOfTwo_24 (by decide) ?_
    refine lv_istore (lv' := [(6, .int 0), (4, .double FP.dconst1), (3, .int (nI n)), (2, .ref da), (0, .ref nb), (1, .int ex)]) hx hb dX2_powerOfTwo_25 hl (by decide) rfl (fun ls hl => ?_)
    exact loop 10 0 _ rfl (by rw [Nat.pow_zero, Nat.mod_one]; exact P64.one) ls (lv_sub hl [0, 1, 2, 3] rfl)
