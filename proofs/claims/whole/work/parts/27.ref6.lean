theorem mag16 {r : UInt64} (h : zmg r < 2 ^ 1078) : r.toNat % 9223372036854775808 < 4625196817309499392 := by
  have h1 := (pwb (e := 1027) (by decide) (by decide)).2
  rw [u_tn (by decide)] at h1
  rw [show 51 + 1027 = 1078 from rfl] at h1
  rw [← h1] at h
  have := FP.Core.unitsOf_lt_iff.mp h
  rw [show 1027 * 2 ^ 52 = 4625196817309499392 from rfl] at this
  exact this
theorem q16 {q : Nat} (h : q < 17) : q * 2 ^ 1074 ≤ 2 ^ 1078 := by
  rw [show 2 ^ 1078 = 16 * 2 ^ 1074 from (by rw [show 1078 = 4 + 1074 from rfl, Nat.pow_add])]
  exact Nat.mul_le_mul_right _ (by omega)
theorem wrap_mag {x n : UInt64} {q : Nat} (hx : fin64 x) (hn : P64 n (q * 2 ^ 1074)) (h0 : 0 < q) (h1 : q < 17) : (wrapP (FP.drem x n) n).toNat % 9223372036854775808 < 4625196817309499392 := by
  have hb : 0 < q * 2 ^ 1074 := Nat.mul_pos h0 (Nat.two_pow_pos _)
  have hq := q16 h1
  generalize q * 2 ^ 1074 = b at hn hb hq
  obtain ⟨f1, f2, f3⟩ := drem_facts hx hn.fin (by rw [hn.mg]; exact hb)
  have f4 : zmg (FP.drem x n) < b := by rw [f3, hn.mg]; exact Nat.mod_lt _ hb
  have f5 := mag16 (Nat.lt_of_lt_of_le f4 hq)
  generalize FP.drem x n = p at f1 f4 f5 ⊢
  unfold wrapP
  by_cases c1 : dLt p FP.dconst0
  · rw [if_pos c1]
    by_cases c2 : dLt (FP.dadd p n) n
    · rw [if_pos c2]
      have n0 : FP.dcmp n 0 = some .gt := (hn.gt P64.zero).mpr hb
      have zn : FP.Core.zval FP.Core.b64 (FP.Core.val64 (FP.dneg n)) = -(b : Int) := by
        have e : 9223372036854775808 ≤ (FP.dneg n).toNat := by
          rw [dneg_sgn]
          have := hn.1; omega
        rw [zv_eq (fin_dneg hn.fin), if_pos e, zmg_dneg, hn.mg]
      have g3 : FP.dcmp p (FP.dneg n) = some .gt := by
        refine (dgt_iff (fin64_ne f1) (fin64_ne (fin_dneg hn.fin))).mpr ?_
        rw [zn, zv_eq f1]
        by_cases hs : 9223372036854775808 ≤ p.toNat
        · rw [if_pos hs]; omega
        · rw [if_neg hs]; omega
      obtain ⟨k1, -⟩ := FP.V.dadd_between c1 n0 g3
      have hnm : n.toNat ≤ 4625196817309499392 := by
        have h2 := (pwb (e := 1027) (by decide) (by decide)).2
        rw [u_tn (by decide), show 51 + 1027 = 1078 from rfl] at h2
        have h3 := hn.2
        rw [← h2, ← h3] at hq
        have := FP.Core.unitsOf_le_iff.mp hq
        rw [show 1027 * 2 ^ 52 = 4625196817309499392 from rfl] at this
        exact this
      have h2 := FP.Core.dadd_mag (a := p) (b := n) (K := 1100) (by omega) (by omega) (by decide)
      have fr : fin64 (FP.dadd p n) := by unfold fin64; exact Nat.lt_trans h2 (by decide)
      refine mag16 (Nat.lt_of_lt_of_le ?_ hq)
      generalize FP.dadd p n = r at c2 k1 fr ⊢
      have c3 := (dlt_iff fr hn.fin).mp c2
      rw [hn.zval, zv_eq fr] at c3
      have c4 : ¬ dLt r FP.dconst0 := by
        intro w
        have w' : FP.dcmp r 0 = some .lt := w
        rcases k1 with k | k
        · rw [w'] at k; cases k
        · rw [w'] at k; cases k
      rw [dlt_iff fr fin_dc0, P64.dc0.zval, zv_eq fr] at c4
      by_cases hs : 9223372036854775808 ≤ r.toNat
      · rw [if_pos hs] at c3 c4; omega
      · rw [if_neg hs] at c3 c4; omega
    · rw [if_neg c2]; decide
  · rw [if_neg c1]; exact f5
theorem upF_s (F : gF) (c k : Nat) (x : UInt64) : upF F c k x c k = x := by
  unfold upF va_up vf_upd; rw [if_pos rfl, if_pos rfl]
theorem upF_n (F : gF) {c k c' k' : Nat} (x : UInt64) (h : k' ≠ k) : upF F c k x c' k' = F c' k' := by
  unfold upF va_up vf_upd
  by_cases e : c' = c
  · subst e; rw [if_pos rfl, if_neg h]
  · rw [if_neg e]
theorem upF_c (F : gF) {c k c' : Nat} (x : UInt64) (h : c' ≠ c) : upF F c k x c' = F c' := by
  unfold upF va_up; rw [if_neg h]
theorem upI_s (F : gI) (c k : Nat) (x : Int32) : upI F c k x c k = x := by
  unfold upI va_up upd; rw [if_pos rfl]; exact if_pos rfl
theorem upI_n (F : gI) {c k c' k' : Nat} (x : Int32) (h : k' ≠ k) : upI F c k x c' k' = F c' k' := by
  unfold upI va_up upd
  by_cases e : c' = c
  · subst e; rw [if_pos rfl]; exact if_neg h
  · rw [if_neg e]
theorem upI_c (F : gI) {c k c' : Nat} (x : Int32) (h : c' ≠ c) : upI F c k x c' = F c' := by
  unfold upI va_up; rw [if_neg h]
theorem upL_s (F : gL) (c k : Nat) (x : Int64) : upL F c k x c k = x := by
  unfold upL va_up vp_updL; rw [if_pos rfl]; exact if_pos rfl
theorem upL_n (F : gL) {c k c' k' : Nat} (x : Int64) (h : k' ≠ k) : upL F c k x c' k' = F c' k' := by
  unfold upL va_up vp_updL
  by_cases e : c' = c
  · subst e; rw [if_pos rfl]; exact if_neg h
  · rw [if_neg e]
theorem upL_c (F : gL) {c k c' : Nat} (x : Int64) (h : c' ≠ c) : upL F c k x c' = F c' := by
  unfold upL va_up; rw [if_neg h]
theorem upI_id (F : gI) (c k : Nat) : upI F c k (F c k) = F := by
  funext c' k'
  by_cases e : c' = c
  · subst e
    by_cases e2 : k' = k
    · subst e2; exact upI_s _ _ _ _
    · exact upI_n _ _ e2
  · rw [upI_c _ _ e]
theorem setI_id {z : SG} {c k : Nat} {x : Int32} (h : z.1 c k = x) : setI z c k x = z := by
  subst h
  show (upI z.1 c k (z.1 c k), z.2) = z
  rw [upI_id]
def SB (b : Nat) (z : SG) : Prop := ∀ h, h < 4 → ∃ k, k ≤ b ∧ z.2.2 0 h = lN k
theorem INV.sb {n : Nat} {z : SG} (h : INV n z) : SB (64 * n) z := fun i hi => (h.2.2.2.1 i hi).2
theorem INV.mono {n N : Nat} {z : SG} (h : INV n z) (hN : n ≤ N) : INV N z := by
  obtain ⟨⟨r, h1, h2⟩, ⟨m, h3, h4⟩, h5, h6, h7⟩ := h
  exact ⟨⟨r, by omega, h2⟩, ⟨m, by omega, h4⟩, h5, fun i hi => ⟨(h6 i hi).1, by obtain ⟨k, hk, e⟩ := (h6 i hi).2; exact ⟨k, by omega, e⟩⟩, h7⟩
theorem INV.fail {n : Nat} {z : SG} (w : Int32) (h : INV n z) : INV n (failS z w) := h
theorem stW_ask {z : SG} {h : Nat} (hw : stW z h = 0) : ask z 0 (z.1 8 h) (FP.d2i (z.2.1 3 h)) = 0 := by
  by_cases c : ask z 0 (z.1 8 h) (FP.d2i (z.2.1 3 h)) = 0
  · exact c
  · unfold stW at hw; rw [if_neg c] at hw; exact absurd hw c
/-- what a step changes keeps the numbers' bounds -/
theorem stS_place {n : Nat} {z : SG} {h : Nat} (hI : INV n z) (hn : n ≤ 512) (hh : h < 4) (hset : ¬ z.1 7 h = 0) (hw : stW z h = 0) : (wrapP (FP.drem (FP.dadd (z.2.1 3 h) (z.2.1 2 h)) (FP.i2d (z.1 1 (cl (z.1 2 (slot 0 (z.1 8 h))))))) (FP.i2d (z.1 1 (cl (z.1 2 (slot 0 (z.1 8 h))))))).toNat % 9223372036854775808 < 4625196817309499392 := by
  have hH := hI.2.2.1 h hh hset
  have hpl := (hI.2.2.2.1 h hh).1
  have htr := ask_0 (stW_ask hw)
  have htq := hI.sl hn (slot_lt (cv := 0) hH.1).2.1 htr.1
  have htq2 := in_cl htr.2
  have h17 := in_cl htq.2
  rw [in_nI htq.2 (by decide)]
  exact wrap_mag (add_fin hpl hH.2.2.2.1 hH.2.2.2.2) (i2d_zm (by omega) (by omega)) (by omega) h17
theorem stC_flo {n : Nat} {z : SG} {h : Nat} (hI : INV n z) (hn : n ≤ 512) (hh : h < 4) (hset : ¬ z.1 7 h = 0) (hw : stW z h = 0) : flo (stC z h (z.2.1 0 (itm z 0 (z.1 8 h) (FP.d2i (z.2.1 3 h))))) := by
  have hH := hI.2.2.1 h hh hset
  have hask := stW_ask hw
  have hix0 := itm_ix hI hn hH.1 hask
  have hslot : slot 0 (z.1 8 h) = cl (z.1 8 h) := (slot_lt (cv := 0) hH.1).2.2
  have hv0 : flo (z.2.1 0 (itm z 0 (z.1 8 h) (FP.d2i (z.2.1 3 h)))) := by
    have h7 := hI.itf (k := cl (z.1 8 h)) (j := cl (FP.d2i (z.2.1 3 h))) (in_cl hH.1) (by rw [← hslot]; exact (ask_0 hask).1) hix0.2.2
    rw [← hslot] at h7; exact h7
  unfold stC
  by_cases c : z.1 9 h < 0
  · rw [if_pos c]; exact hv0
  · rw [if_neg c]
    have hcv : inR (z.1 9 h) 6 := hH.2.1.resolve_left (fun q => c (by rw [q]; decide))
    have hcc := in_cl hcv
    unfold stW at hw
    rw [if_pos hask] at hw
    have c68 : ¬ z.1 2 (6 + cl (z.1 9 h)) < 0 := fun q => by rw [if_pos ⟨c, q⟩] at hw; exact absurd hw (by decide)
    rw [if_neg (fun q => c68 q.2)] at hw
    have c78 : ¬ z.1 1 (cl (z.1 2 (6 + cl (z.1 9 h)))) = 0 := fun q => by rw [if_pos ⟨c, q⟩] at hw; exact absurd hw (by decide)
    have hrw := hI.sl hn (show 6 + cl (z.1 9 h) < 12 by omega) c68
    have h17 := in_cl hrw.2
    have hq0 : 0 < cl (z.1 1 (cl (z.1 2 (6 + cl (z.1 9 h))))) := Nat.pos_of_ne_zero (fun w => c78 (by rw [in_nI hrw.2 (by decide), w]; rfl))
    have hlt := Nat.mod_lt (z.2.2 0 h).toInt.toNat hq0
    exact f2d_flo (heldf_fin (nn_mul (flo_fin hv0) (hI.it (show 6 + cl (z.1 9 h) < 12 by omega) c68 (by omega))))
theorem stV_flo {n : Nat} {z : SG} {h : Nat} (hI : INV n z) (hn : n ≤ 512) (hh : h < 4) (hset : ¬ z.1 7 h = 0) (hw : stW z h = 0) : flo (stV z h) := by
  have hc := stC_flo hI hn hh hset hw
  have hH := hI.2.2.1 h hh hset
  have hask := stW_ask hw
  unfold stV stR
  by_cases c : z.1 10 h < 0
  · rw [if_pos c]; exact hc
  · rw [if_neg c]
    have hrk : inR (z.1 10 h) 3 := hH.2.2.1.resolve_left (fun q => c (by rw [q]; decide))
    have hr3 := in_cl hrk
    unfold stW at hw
    rw [if_pos hask] at hw
    by_cases c1 : ¬ z.1 9 h < 0 ∧ z.1 2 (6 + cl (z.1 9 h)) < 0
    · rw [if_pos c1] at hw; exact absurd hw (by decide)
    rw [if_neg c1] at hw
    by_cases c2 : ¬ z.1 9 h < 0 ∧ z.1 1 (cl (z.1 2 (6 + cl (z.1 9 h)))) = 0
    · rw [if_pos c2] at hw; exact absurd hw (by decide)
    rw [if_neg c2] at hw
    have c3 : ¬ (z.1 5 (cl (z.1 10 h)) < 0 ∨ z.1 6 (3 * cl (z.1 10 h)) < 0 ∨ z.1 6 (3 * cl (z.1 10 h) + 1) < 0 ∨ z.1 6 (3 * cl (z.1 10 h) + 2) < 0) := fun q => by rw [if_pos ⟨c, q⟩] at hw; exact absurd hw (by decide)
    have e0 := hI.hk hn (show 3 * cl (z.1 10 h) < 9 by omega) (fun q => c3 (Or.inr (Or.inl q)))
    have e1 := hI.hk hn (show 3 * cl (z.1 10 h) + 1 < 9 by omega) (fun q => c3 (Or.inr (Or.inr (Or.inl q))))
    have e2 := hI.hk hn (show 3 * cl (z.1 10 h) + 2 < 9 by omega) (fun q => c3 (Or.inr (Or.inr (Or.inr q))))
    have m0 := mde_flo (z := z) (e := z.1 6 (3 * cl (z.1 10 h))) (mkv_nn hc e0.2.1 e0.2.2)
    have m1 := mde_flo (z := z) (e := z.1 6 (3 * cl (z.1 10 h) + 1)) (mkv_nn m0 e1.2.1 e1.2.2)
    exact mde_flo (z := z) (mkv_nn m1 e2.2.1 e2.2.2)
theorem inv_stS {n b : Nat} {z : SG} {h : Nat} (hI : INV n z) (hB : SB b z) (hbn : b + 1 ≤ 64 * n) (hn : n ≤ 512) (hh : h < 4) (hset : ¬ z.1 7 h = 0) (hw : stW z h = 0) : INV n (stS z h) ∧ SB (b + 1) (stS z h) := by
  have hSB : SB (b + 1) (stS z h) := by
    intro i hi
    by_cases e : i = h
    · subst e
      obtain ⟨k, hk, hk2⟩ := hB i hi
      refine ⟨k + 1, by omega, ?_⟩
      show upL z.2.2 0 i (z.2.2 0 i + 1) 0 i = _
      rw [upL_s, hk2]
      exact lN_add k 1
    · obtain ⟨k, hk, hk2⟩ := hB i hi
      refine ⟨k, by omega, ?_⟩
      show upL z.2.2 0 h (z.2.2 0 h + 1) 0 i = _
      rw [upL_n _ _ e]; exact hk2
  refine ⟨⟨hI.1, hI.2.1, hI.2.2.1, fun i hi => ⟨?_, ?_⟩, fun i hi => ?_⟩, hSB⟩
  · show (upF (upF z.2.1 4 _ _) 3 h _ 3 i).toNat % _ < _
    by_cases e : i = h
    · subst e
      rw [upF_s]; exact stS_place hI hn hi hset hw
    · rw [upF_n _ _ e, upF_c _ _ (by decide)]; exact (hI.2.2.2.1 i hi).1
  · obtain ⟨k, hk, hk2⟩ := hSB i hi
    exact ⟨k, by omega, hk2⟩
  · obtain ⟨kk, hkb, hkk⟩ := (hI.2.2.2.1 h hh).2
    have hix : (z.2.2 0 h).toInt.toNat % 8 < 8 := Nat.mod_lt _ (by decide)
    have e : (stS z h).2.1 4 i = upF z.2.1 4 ((z.2.2 0 h).toInt.toNat % 8) (FP.f2d (heldf (FP.dadd (z.2.1 4 ((z.2.2 0 h).toInt.toNat % 8)) (stV z h)))) 4 i := rfl
    show ∃ x, fin32 x ∧ (stS z h).2.1 4 i = FP.f2d x
    rw [e]
    clear e
    generalize (z.2.2 0 h).toInt.toNat % 8 = q at hix
    by_cases e : i = q
    · subst e
      rw [upF_s]
      obtain ⟨x, hx, hxe⟩ := hI.2.2.2.2 i hi
      exact ⟨_, heldf_fin (nn_add (by rw [hxe]; exact fin_f2d hx) (flo_fin (stV_flo hI hn hh hset hw))), rfl⟩
    · rw [upF_n _ _ e]; exact hI.2.2.2.2 i hi
theorem plz_ok {h k : Nat} {s : SG} (hs : stW s h = 0) : plz h (k + 1) s = ((plz h k (stS s h)).1 + 1, (plz h k (stS s h)).2) := if_pos hs
theorem plz_no {h k : Nat} {s : SG} (hs : ¬ stW s h = 0) : plz h (k + 1) s = (0, stW s h, s) := if_neg hs
set_option maxHeartbeats 4000000 in
set_option maxRecDepth 100000 in
theorem c_X5_play (l : Launch) (D : va_G) (cT : Nat → ClassId) {M : hmp} {a : Nat → Nat} {z : SG} (hR : RS cT a M z) {n : Nat} (hI : INV n z) (hn : n + 1 ≤ 512) (h nn : Int32) (sz : Nat) : Met l yX5_play (wz yX5_play cX5_play 4 (some .int)) ({ frames := 3, cells := 0, slots := 0, locals := 79 } : Room) (mP D cT [.ref (a 0), .int h, .int nn] M sz) (mQi (fun rr MM => rr = (sp_play z h nn).1 ∧ RS cT a MM (sp_play z h nn).2) D M sz) 0 0 (FA M sz) := by
  refine mk_m (by decide +kernel) (Nat.le_of_ble_eq_true rfl) ?_
  intro p e s m args below meth c S hK hsz hM hr hlocks hnm ls hl
  have hx := S.1
  have hb := S.2.1
  have hml := S.2.2.1
  have hown := S.2.2.2.1
  have hts := S.2.2.2.2
  have hl : lv_has ls 4 [(0, .ref (a 0)), (1, .int h), (2, .int nn)] := hl
  have loop : inR h 4 → inR nn 65 → ∀ (k j : Nat) (zz : SG) (M1 : hmp) (H : Heap) (locs : List Loc), j + k = cl nn → zz.1 0 2 = 0 → INV (n + 1) zz → SB (64 * n + j) zz → ¬ zz.1 7 (cl h) = 0 → RS cT a M1 zz → HM D (FA M sz) M1 s.heap H locs → (nI (j + (plz (cl h) k zz).1), failS (plz (cl h) k zz).2.2 (plz (cl h) k zz).2.1) = sp_play z h nn → ∀ ls, lv_has ls 4 [(3, .int (nI j)), (0, .ref (a 0)), (1, .int h), (2, .int nn)] → W p l e ({ frames := 3, cells := 0, slots := 0, locals := 79 } : Room) s m args below meth c H locs 0 0 (MQ below (mQi (fun rr MM => rr = (sp_play z h nn).1 ∧ RS cT a MM (sp_play z h nn).2) D M sz) args s 0 0 (FA M sz)) (F0 m 37 ls []) := by
    intro c3 c22 k
    have hnn := in_nI c22 (by decide)
    have hnl := in_cl c22
    induction k with
    | zero =>
      intro j zz M1 H locs hj hf0 hIz hBz hset hR hM heq ls hl
      refine lv_iload_n hx hb dX5_play_37 rfl (lv_at hl 0 rfl) ?_
      refine lv_iload_n hx hb dX5_play_38 rfl (lv_at hl 3 rfl) ?_
      refine lv_icmp_ge (tgt := 76) hx hb dX5_play_39 (by decide) (fun _ => ?_) (fun h9 => absurd (show nn ≤ nI j by rw [hnn, ← hj]; exact Int32.le_refl _) h9)
      refine lv_iload_n hx hb dX5_play_76 rfl (lv_at hl 0 rfl) ?_
      refine mr_i S hM hr hlocks dX5_play_77 ⟨Nat.le_of_ble_eq_true rfl, Nat.le_of_ble_eq_true rfl⟩ ?_
      rw [← heq]
      exact ⟨rfl, by show RS cT a M1 (setI zz 0 2 0); rw [setI_id hf0]; exact hR⟩
    | succ k ih =>
      intro j zz M1 H locs hj hf0 hIz hBz hset hR hM heq ls hl
      have hjn : ¬ nn ≤ nI j := by rw [hnn]; exact nI_ge (by omega) (by omega)
      refine lv_iload_n hx hb dX5_play_37 rfl (lv_at hl 0 rfl) ?_
      refine lv_iload_n hx hb dX5_play_38 rfl (lv_at hl 3 rfl) ?_
      refine lv_icmp_ge (tgt := 76) hx hb dX5_play_39 (by decide) (fun h9 => absurd h9 hjn) (fun _ => ?_)
      refine lv_aload_n hx hb dX5_play_42 rfl (lv_at hl 1 rfl) ?_
      refine hm_get S hK hM.pr cI5 (RS.c0 hR) 18 (by decide) w_2_118 rfl dX5_play_43 ?_
      refine lv_if_ne (tgt := 76) hx hb dX5_play_46 (by decide) (fun h9 => absurd hf0 h9) (fun _ => ?_)
      refine lv_aload_n hx hb dX5_play_49 rfl (lv_at hl 1 rfl) ?_
      refine lv_aload_n hx hb dX5_play_50 rfl (lv_at hl 1 rfl) ?_
      refine lv_iload_n hx hb dX5_play_51 rfl (lv_at hl 2 rfl) ?_
      refine mc_i hM (rVm (rest := [.ref (a 0)]) S hK hM cI5 (RS.c0 hR) rfl (c_X5_step l D cT hR hIz hn h c3 hset H.size) sm_X5_step w_S_13 w_3_56 ⟨Nat.le_of_ble_eq_true rfl, Nat.le_of_ble_eq_true rfl⟩ ⟨rfl, rfl⟩ rfl hl.1 rfl (Nat.le_of_ble_eq_true rfl) dX5_play_52 ⟨Nat.le_of_ble_eq_true rfl, Nat.le_of_ble_eq_true rfl⟩) (fun w M2 H locs hw hM _ _ _ => ?_)
      by_cases hs : stW zz (cl h) = 0
      · rw [stW_ok hs] at hw
        obtain ⟨hw1, hR⟩ := hw
        subst hw1
        refine hm_put S hK hM cI5 (RS.c0 hR) 18 (by decide) w_2_118 rfl rfl rfl (Nat.le_of_ble_eq_true rfl) dX5_play_55 (fun H locs M1 hM1 hM => ?_)
        have hR := RS.f18 hR hM1
        rw [setI_id (z := stS zz (cl h)) (c := 0) (k := 2) (x := 0) hf0] at hR
        refine lv_aload_n hx hb dX5_play_58 rfl (lv_at hl 1 rfl) ?_
        refine hm_get S hK hM.pr cI5 (RS.c0 hR) 18 (by decide) w_2_118 rfl dX5_play_59 ?_
        refine lv_if_ne (tgt := 71) hx hb dX5_play_62 (by decide) (fun h9 => absurd hf0 h9) (fun _ => ?_)
        refine lv_iload_n hx hb dX5_play_65 rfl (lv_at hl 0 rfl) ?_
        refine lv_iconst (v := 1) hx hb dX5_play_66 (by decide) ?_
        refine lv_iadd hx hb dX5_play_67 ?_
        refine lv_goto (tgt := 72) hx hb dX5_play_68 (by decide) ?_
        refine lv_istore_n (lv' := [(3, .int ((nI j) + 1)), (0, .ref (a 0)), (1, .int h), (2, .int nn)]) hx hb dX5_play_72 rfl hl (by decide) rfl (fun ls hl => ?_)
        refine lv_goto (tgt := 37) hx hb dX5_play_73 (by decide) ?_
        have hS := inv_stS hIz hBz (show 64 * n + j + 1 ≤ 64 * (n + 1) by omega) hn (in_cl c3) hset hs
        refine ih (j + 1) (stS zz (cl h)) _ _ _ (by omega) hf0 hS.1 hS.2 hset hR hM ?_ ls (by rw [← nI_1]; exact hl)
        rw [← heq, plz_ok hs, show j + 1 + (plz (cl h) k (stS zz (cl h))).1 = j + ((plz (cl h) k (stS zz (cl h))).1 + 1) by omega]
      · rw [stW_fail rfl hs] at hw
        obtain ⟨hw1, hR⟩ := hw
        subst hw1
        refine hm_put S hK hM cI5 (RS.c0 hR) 18 (by decide) w_2_118 rfl rfl rfl (Nat.le_of_ble_eq_true rfl) dX5_play_55 (fun H locs M2 hM2 hM => ?_)
        have hR := RS.f18 hR hM2
        refine lv_aload_n hx hb dX5_play_58 rfl (lv_at hl 1 rfl) ?_
        refine hm_get S hK hM.pr cI5 (RS.c0 hR) 18 (by decide) w_2_118 rfl dX5_play_59 ?_
        refine lv_if_ne (tgt := 71) hx hb dX5_play_62 (by decide) (fun _ => ?_) (fun h9 => absurd (show stW zz (cl h) = 0 from h9) hs)
        refine lv_iload_n hx hb dX5_play_71 rfl (lv_at hl 0 rfl) ?_
        refine lv_istore_n (lv' := [(3, .int (nI j)), (0, .ref (a 0)), (1, .int h), (2, .int nn)]) hx hb dX5_play_72 rfl hl (by decide) rfl (fun ls hl => ?_)
        refine lv_goto (tgt := 37) hx hb dX5_play_73 (by decide) ?_
        refine lv_iload_n hx hb dX5_play_37 rfl (lv_at hl 0 rfl) ?_
        refine lv_iload_n hx hb dX5_play_38 rfl (lv_at hl 3 rfl) ?_
        refine lv_icmp_ge (tgt := 76) hx hb dX5_play_39 (by decide) (fun h9 => absurd h9 hjn) (fun _ => ?_)
        refine lv_aload_n hx hb dX5_play_42 rfl (lv_at hl 1 rfl) ?_
        refine hm_get S hK hM.pr cI5 (RS.c0 hR) 18 (by decide) w_2_118 rfl dX5_play_43 ?_
        refine lv_if_ne (tgt := 76) hx hb dX5_play_46 (by decide) (fun _ => ?_) (fun h9 => absurd (show stW zz (cl h) = 0 from h9) hs)
        refine lv_iload_n hx hb dX5_play_76 rfl (lv_at hl 0 rfl) ?_
        refine mr_i S hM hr hlocks dX5_play_77 ⟨Nat.le_of_ble_eq_true rfl, Nat.le_of_ble_eq_true rfl⟩ ?_
        rw [← heq, plz_no hs]
        exact ⟨rfl, hR⟩
  refine lv_iload_n hx hb dX5_play_0 rfl (lv_at hl 1 rfl) ?_
  refine lv_iconst (v := 0) hx hb dX5_play_1 (by decide) ?_
  refine lv_iconst (v := 3) hx hb dX5_play_2 (by decide) ?_
  refine pc_b (rS (rest := []) S hK (c_X5_in l D cT s.heap h 0 3 (n := 4) (by decide) (by decide)) sm_X5_in w_2_171 ⟨Nat.le_of_ble_eq_true rfl, Nat.le_of_ble_eq_true rfl⟩ ⟨rfl, rfl⟩ rfl hl.1 rfl (Nat.le_of_ble_eq_true rfl) dX5_play_3 ⟨Nat.le_of_ble_eq_true rfl, Nat.le_of_ble_eq_true rfl⟩) (fun c3 => ?_) (fun c3 => ?_)
  · skip
    refine lv_if_eq (tgt := 28) hx hb dX5_play_6 (by decide) (fun h => absurd h (by decide)) (fun _ => ?_)
    refine lv_aload_n hx hb dX5_play_9 rfl (lv_at hl 0 rfl) ?_
    refine hm_get S hK hM.pr cI5 (RS.c0 hR) 10 (by decide) w_2_110 rfl dX5_play_10 ?_
    refine lv_iload_n hx hb dX5_play_13 rfl (lv_at hl 1 rfl) ?_
    refine hm_zald S hK hM.pr (RS.c9 hR) c3 dX5_play_14 ?_
    refine lv_if_eq (tgt := 28) hx hb dX5_play_15 (by decide) (fun c15 => ?_) (fun c15 => ?_)
    · skip
      refine lv_iconst (v := (-1)) hx hb dX5_play_28 (by decide) ?_
      refine mr_i S hM hr hlocks dX5_play_29 ⟨Nat.le_of_ble_eq_true rfl, Nat.le_of_ble_eq_true rfl⟩ ?_
      have e9 : sp_play z h nn = (-1, z) := if_neg (fun q => q.2.1 c15)
      rw [e9]
      exact ⟨rfl, hR⟩
    · skip
      refine lv_iload_n hx hb dX5_play_18 rfl (lv_at hl 2 rfl) ?_
      refine lv_iconst (v := 0) hx hb dX5_play_19 (by decide) ?_
      refine lv_bipush (v := 64) hx hb dX5_play_20 (by decide) ?_
      refine pc_b (rS (rest := []) S hK (c_X5_in l D cT s.heap nn 0 64 (n := 65) (by decide) (by decide)) sm_X5_in w_2_171 ⟨Nat.le_of_ble_eq_true rfl, Nat.le_of_ble_eq_true rfl⟩ ⟨rfl, rfl⟩ rfl hl.1 rfl (Nat.le_of_ble_eq_true rfl) dX5_play_22 ⟨Nat.le_of_ble_eq_true rfl, Nat.le_of_ble_eq_true rfl⟩) (fun c22 => ?_) (fun c22 => ?_)
      · skip
        refine lv_if_ne (tgt := 30) hx hb dX5_play_25 (by decide) (fun _ => ?_) (fun h => absurd h (by decide))
        refine lv_aload_n hx hb dX5_play_30 rfl (lv_at hl 0 rfl) ?_
        refine lv_iconst (v := 0) hx hb dX5_play_31 (by decide) ?_
        refine hm_put S hK hM cI5 (RS.c0 hR) 18 (by decide) w_2_118 rfl rfl rfl (Nat.le_of_ble_eq_true rfl) dX5_play_32 (fun H locs M3 hM3 hM => ?_)
        have hR := RS.f18 hR hM3
        refine lv_iconst (v := 0) hx hb dX5_play_35 (by decide) ?_
        refine lv_istore_n (lv' := [(3, .int 0), (0, .ref (a 0)), (1, .int h), (2, .int nn)]) hx hb dX5_play_36 rfl hl (by decide) rfl (fun ls hl => ?_)
        have hc22 := in_cl c22
        refine loop c3 c22 (cl nn) 0 (failS z 0) _ _ _ (by omega) rfl ((hI.mono (Nat.le_succ n)).fail 0) hI.sb c15 hR hM ?_ ls hl
        rw [Nat.zero_add]; exact (if_pos ⟨c3, c15, c22⟩).symm
      · skip
        refine lv_if_ne (tgt := 30) hx hb dX5_play_25 (by decide) (fun h => absurd rfl h) (fun _ => ?_)
        refine lv_iconst (v := (-1)) hx hb dX5_play_28 (by decide) ?_
        refine mr_i S hM hr hlocks dX5_play_29 ⟨Nat.le_of_ble_eq_true rfl, Nat.le_of_ble_eq_true rfl⟩ ?_
        have e9 : sp_play z h nn = (-1, z) := if_neg (fun q => c22 q.2.2)
        rw [e9]
        exact ⟨rfl, hR⟩
  · skip
    refine lv_if_eq (tgt := 28) hx hb dX5_play_6 (by decide) (fun _ => ?_) (fun h => absurd (by decide) h)
    refine lv_iconst (v := (-1)) hx hb dX5_play_28 (by decide) ?_
    refine mr_i S hM hr hlocks dX5_play_29 ⟨Nat.le_of_ble_eq_true rfl, Nat.le_of_ble_eq_true rfl⟩ ?_
    have e9 : sp_play z h nn = (-1, z) := if_neg (fun q => c3 q.1)
    rw [e9]
    exact ⟨rfl, hR⟩
