section LAW
variable {p : Program} {l : Launch} {e : Env} {s : State} {m : MethodId} {below : List Frame} {meth : Method} {c : Code} {b L : Nat} {xs : Nat → Int32} {D : va_G} {cT : Nat → ClassId} {fu fd : Nat → UInt64} {ad : Nat → Nat → Nat} {a : Nat → Nat} {z : SG} {n : Nat} {H : Heap} {locs : List Loc} {Mx Mr : hmp} {Q : State → Prop}
abbrev A0 (s : State) : Nat → Prop := fun q => s.heap.size ≤ q
set_option maxHeartbeats 4000000 in
set_option maxRecDepth 100000 in
theorem law_row (S : CallFix p m c code 4 s #[Value.ref b] lw_all RL) (hK : KK D cT s) (hXs : va_X b L xs s s.heap) (hbl : b < s.heap.size) (hL : L ≤ 3584) (h7 : 7 * n + 7 ≤ L) (hX : XS cT fu fd ad Mx z) (hR : RS cT a Mr z) (hI : INV n z) (hMx : HM D (A0 s) Mx s.heap H locs) (hMr : HP D (A0 s) Mr H) (hd : dis Mx Mr) (nx : ∀ (ad1 : Nat → Nat → Nat) (Mx1 Mr1 : hmp) (H1 : Heap) (locs1 : List Loc) (z1 : SG) (k1 k2 : Nat), ad1 0 0 = ad 0 0 → XS cT fu fd ad1 Mx1 z1 → RS cT a Mr1 z1 → INV (n + 1) z1 → HM D (A0 s) Mr1 s.heap H1 locs1 → HP D (A0 s) Mx1 H1 → dis Mx1 Mr1 → k1 ≤ 100 + 2 * (n + 1) → k2 ≤ 20000 + 16 * (n + 1) → ∀ ls, lv_has ls 4 [(3, .int (nI (7 * n))), (2, .ref (a 0)), (1, .ref (ad 0 0)), (0, .ref b)] → W p l e room_1 s m #[Value.ref b] below meth c H1 locs1 k1 k2 Q (F0 m 1080 ls [])) : ∀ ls, lv_has ls 4 [(3, .int (nI (7 * n))), (2, .ref (a 0)), (1, .ref (ad 0 0)), (0, .ref b)] → W p l e room_1 s m #[Value.ref b] below meth c H locs (100 + 2 * n) (20000 + 16 * n) Q (F0 m 124 ls []) := by
  intro ls hl
  have hx := S.1
  have hb := S.2.1
  have hml := S.2.2.1
  have hown := S.2.2.2.1
  have hts := S.2.2.2.2
  refine lv_aload_n hx hb dL_law_124 rfl (lv_at hl 2 rfl) ?_
  refine lv_aload_n hx hb dL_law_125 rfl (lv_at hl 3 rfl) ?_
  refine lv_iload_n hx hb dL_law_126 rfl (lv_at hl 0 rfl) ?_
  refine lv_iconst (v := 1) hx hb dL_law_127 (by decide) ?_
  refine lv_iadd hx hb dL_law_128 ?_
  refine lv_topi (fun z1 hz1 => ?_)
  have hz1 : z1 = (nI (7 * n + 1)) := by rw [hz1]; exact nI_add (7 * n) 1
  subst hz1
  refine va_sld S.1 S.2.1 hXs hbl (Nat.not_le.mpr hbl) hMx.2.1 (vp_in_nI (n := 7 * n + 1) (by omega) (by omega)) dL_law_129 ?_
  refine lv_topi (fun z2 hz2 => ?_)
  have hz2 : z2 = (xs (7 * n + 1)) := by rw [hz2]; exact congrArg xs (cl_nI (by omega))
  subst hz2
  refine lv_if_eq (tgt := 137) hx hb dL_law_130 (by decide) (fun cb => ?_) (fun cb => ?_)
  · skip
    refine lv_iconst (v := 0) hx hb dL_law_137 (by decide) ?_
    refine lv_aload_n hx hb dL_law_138 rfl (lv_at hl 3 rfl) ?_
    refine lv_iload_n hx hb dL_law_139 rfl (lv_at hl 0 rfl) ?_
    refine lv_iconst (v := 2) hx hb dL_law_140 (by decide) ?_
    refine lv_iadd hx hb dL_law_141 ?_
    refine lv_topi (fun z3 hz3 => ?_)
    have hz3 : z3 = (nI (7 * n + 2)) := by rw [hz3]; exact nI_add (7 * n) 2
    subst hz3
    refine va_sld S.1 S.2.1 hXs hbl (Nat.not_le.mpr hbl) hMx.2.1 (vp_in_nI (n := 7 * n + 2) (by omega) (by omega)) dL_law_142 ?_
    refine lv_topi (fun z4 hz4 => ?_)
    have hz4 : z4 = (xs (7 * n + 2)) := by rw [hz4]; exact congrArg xs (cl_nI (by omega))
    subst hz4
    refine lv_aload_n hx hb dL_law_143 rfl (lv_at hl 3 rfl) ?_
    refine lv_iload_n hx hb dL_law_144 rfl (lv_at hl 0 rfl) ?_
    refine lv_iconst (v := 3) hx hb dL_law_145 (by decide) ?_
    refine lv_iadd hx hb dL_law_146 ?_
    refine lv_topi (fun z5 hz5 => ?_)
    have hz5 : z5 = (nI (7 * n + 3)) := by rw [hz5]; exact nI_add (7 * n) 3
    subst hz5
    refine va_sld S.1 S.2.1 hXs hbl (Nat.not_le.mpr hbl) hMx.2.1 (vp_in_nI (n := 7 * n + 3) (by omega) (by omega)) dL_law_147 ?_
    refine lv_topi (fun z6 hz6 => ?_)
    have hz6 : z6 = (xs (7 * n + 3)) := by rw [hz6]; exact congrArg xs (cl_nI (by omega))
    subst hz6
    refine mc_i hMx (rVm (rest := []) S hK hMx cI4 (XS.c0 hX) rfl (c_X4_row l D cT hX hI (show n < 512 by omega) 0 (xs (7 * n + 2)) (xs (7 * n + 3)) H.size) sm_X4_row w_1_75 w_1_73 ⟨Nat.le_of_ble_eq_true rfl, Nat.le_of_ble_eq_true rfl⟩ ⟨rfl, rfl⟩ rfl hl.1 rfl (Nat.le_of_ble_eq_true rfl) dL_law_148 ⟨by show 100 + 2 * n + 1 ≤ 600000; omega, by show 20000 + 16 * n + 16 ≤ 7302250; omega⟩) (fun r1 Mx1 H1 locs1 hp1 hMx1 hz1 hk1 hB1 => ?_)
    have hMr1 := hMr.other hd hk1
    have hd1 := dis.next hMr hd hB1
    have hMr : HM D (A0 s) Mr s.heap H1 locs1 := ⟨hMx1.1, hMx1.2.1, hMr1⟩
    refine lv_aload_n hx hb dL_law_151 rfl (lv_at hl 1 rfl) ?_
    refine lv_aload_n hx hb dL_law_152 rfl (lv_at hl 3 rfl) ?_
    refine lv_iload_n hx hb dL_law_153 rfl (lv_at hl 0 rfl) ?_
    refine lv_iconst (v := 1) hx hb dL_law_154 (by decide) ?_
    refine lv_iadd hx hb dL_law_155 ?_
    refine lv_topi (fun z7 hz7 => ?_)
    have hz7 : z7 = (nI (7 * n + 1)) := by rw [hz7]; exact nI_add (7 * n) 1
    subst hz7
    refine va_sld S.1 S.2.1 hXs hbl (Nat.not_le.mpr hbl) hMr.2.1 (vp_in_nI (n := 7 * n + 1) (by omega) (by omega)) dL_law_156 ?_
    refine lv_topi (fun z8 hz8 => ?_)
    have hz8 : z8 = (xs (7 * n + 1)) := by rw [hz8]; exact congrArg xs (cl_nI (by omega))
    subst hz8
    refine lv_if_eq (tgt := 164) hx hb dL_law_157 (by decide) (fun _ => ?_) (fun w => absurd cb w)
    refine lv_iconst (v := 0) hx hb dL_law_164 (by decide) ?_
    refine lv_aload_n hx hb dL_law_165 rfl (lv_at hl 3 rfl) ?_
    refine lv_iload_n hx hb dL_law_166 rfl (lv_at hl 0 rfl) ?_
    refine lv_iconst (v := 2) hx hb dL_law_167 (by decide) ?_
    refine lv_iadd hx hb dL_law_168 ?_
    refine lv_topi (fun z9 hz9 => ?_)
    have hz9 : z9 = (nI (7 * n + 2)) := by rw [hz9]; exact nI_add (7 * n) 2
    subst hz9
    refine va_sld S.1 S.2.1 hXs hbl (Nat.not_le.mpr hbl) hMr.2.1 (vp_in_nI (n := 7 * n + 2) (by omega) (by omega)) dL_law_169 ?_
    refine lv_topi (fun z10 hz10 => ?_)
    have hz10 : z10 = (xs (7 * n + 2)) := by rw [hz10]; exact congrArg xs (cl_nI (by omega))
    subst hz10
    refine lv_aload_n hx hb dL_law_170 rfl (lv_at hl 3 rfl) ?_
    refine lv_iload_n hx hb dL_law_171 rfl (lv_at hl 0 rfl) ?_
    refine lv_iconst (v := 3) hx hb dL_law_172 (by decide) ?_
    refine lv_iadd hx hb dL_law_173 ?_
    refine lv_topi (fun z11 hz11 => ?_)
    have hz11 : z11 = (nI (7 * n + 3)) := by rw [hz11]; exact nI_add (7 * n) 3
    subst hz11
    refine va_sld S.1 S.2.1 hXs hbl (Nat.not_le.mpr hbl) hMr.2.1 (vp_in_nI (n := 7 * n + 3) (by omega) (by omega)) dL_law_174 ?_
    refine lv_topi (fun z12 hz12 => ?_)
    have hz12 : z12 = (xs (7 * n + 3)) := by rw [hz12]; exact congrArg xs (cl_nI (by omega))
    subst hz12
    refine mc_i hMr (rVm (rest := [.int r1]) S hK hMr cI5 (RS.c0 hR) rfl (c_X5_row l D cT hR hI (show n ≤ 512 by omega) 0 (xs (7 * n + 2)) (xs (7 * n + 3)) H1.size) sm_X5_row w_2_169 w_2_167 ⟨Nat.le_of_ble_eq_true rfl, Nat.le_of_ble_eq_true rfl⟩ ⟨rfl, rfl⟩ rfl hl.1 rfl (Nat.le_of_ble_eq_true rfl) dL_law_175 ⟨by show 100 + 2 * n + 1 + 0 ≤ 600000; omega, by show 20000 + 16 * n + 16 + 0 ≤ 7302250; omega⟩) (fun r2 Mr1 H2 locs2 hp2 hMr2 hz2 hk2 hB2 => ?_)
    have hMx2 := hMx1.hp.other hd1.symm hk2
    have hd2 := (dis.next hMx1.hp hd1.symm hB2).symm
    obtain ⟨e1, ad1, had, hX1⟩ := hp1
    obtain ⟨e2, hR1⟩ := hp2
    refine lv_icmp_eq (tgt := 1080) hx hb dL_law_178 (by decide) (fun _ => ?_) (fun w => absurd (e1.trans e2.symm) w)
    exact nx ad1 Mx1 Mr1 H2 locs2 _ _ _ had hX1 hR1 (INV.row 0 (xs (7 * n + 2)) (xs (7 * n + 3)) hI (show n < 512 by omega)) hMr2 hMx2 hd2 (by omega) (by omega) ls hl
  · skip
    refine lv_iconst (v := 1) hx hb dL_law_133 (by decide) ?_
    refine lv_goto (tgt := 138) hx hb dL_law_134 (by decide) ?_
    refine lv_aload_n hx hb dL_law_138 rfl (lv_at hl 3 rfl) ?_
    refine lv_iload_n hx hb dL_law_139 rfl (lv_at hl 0 rfl) ?_
    refine lv_iconst (v := 2) hx hb dL_law_140 (by decide) ?_
    refine lv_iadd hx hb dL_law_141 ?_
    refine lv_topi (fun z13 hz13 => ?_)
    have hz13 : z13 = (nI (7 * n + 2)) := by rw [hz13]; exact nI_add (7 * n) 2
    subst hz13
    refine va_sld S.1 S.2.1 hXs hbl (Nat.not_le.mpr hbl) hMx.2.1 (vp_in_nI (n := 7 * n + 2) (by omega) (by omega)) dL_law_142 ?_
    refine lv_topi (fun z14 hz14 => ?_)
    have hz14 : z14 = (xs (7 * n + 2)) := by rw [hz14]; exact congrArg xs (cl_nI (by omega))
    subst hz14
    refine lv_aload_n hx hb dL_law_143 rfl (lv_at hl 3 rfl) ?_
    refine lv_iload_n hx hb dL_law_144 rfl (lv_at hl 0 rfl) ?_
    refine lv_iconst (v := 3) hx hb dL_law_145 (by decide) ?_
    refine lv_iadd hx hb dL_law_146 ?_
    refine lv_topi (fun z15 hz15 => ?_)
    have hz15 : z15 = (nI (7 * n + 3)) := by rw [hz15]; exact nI_add (7 * n) 3
    subst hz15
    refine va_sld S.1 S.2.1 hXs hbl (Nat.not_le.mpr hbl) hMx.2.1 (vp_in_nI (n := 7 * n + 3) (by omega) (by omega)) dL_law_147 ?_
    refine lv_topi (fun z16 hz16 => ?_)
    have hz16 : z16 = (xs (7 * n + 3)) := by rw [hz16]; exact congrArg xs (cl_nI (by omega))
    subst hz16
    refine mc_i hMx (rVm (rest := []) S hK hMx cI4 (XS.c0 hX) rfl (c_X4_row l D cT hX hI (show n < 512 by omega) 1 (xs (7 * n + 2)) (xs (7 * n + 3)) H.size) sm_X4_row w_1_75 w_1_73 ⟨Nat.le_of_ble_eq_true rfl, Nat.le_of_ble_eq_true rfl⟩ ⟨rfl, rfl⟩ rfl hl.1 rfl (Nat.le_of_ble_eq_true rfl) dL_law_148 ⟨by show 100 + 2 * n + 1 ≤ 600000; omega, by show 20000 + 16 * n + 16 ≤ 7302250; omega⟩) (fun r1 Mx1 H1 locs1 hp1 hMx1 hz1 hk1 hB1 => ?_)
    have hMr1 := hMr.other hd hk1
    have hd1 := dis.next hMr hd hB1
    have hMr : HM D (A0 s) Mr s.heap H1 locs1 := ⟨hMx1.1, hMx1.2.1, hMr1⟩
    refine lv_aload_n hx hb dL_law_151 rfl (lv_at hl 1 rfl) ?_
    refine lv_aload_n hx hb dL_law_152 rfl (lv_at hl 3 rfl) ?_
    refine lv_iload_n hx hb dL_law_153 rfl (lv_at hl 0 rfl) ?_
    refine lv_iconst (v := 1) hx hb dL_law_154 (by decide) ?_
    refine lv_iadd hx hb dL_law_155 ?_
    refine lv_topi (fun z17 hz17 => ?_)
    have hz17 : z17 = (nI (7 * n + 1)) := by rw [hz17]; exact nI_add (7 * n) 1
    subst hz17
    refine va_sld S.1 S.2.1 hXs hbl (Nat.not_le.mpr hbl) hMr.2.1 (vp_in_nI (n := 7 * n + 1) (by omega) (by omega)) dL_law_156 ?_
    refine lv_topi (fun z18 hz18 => ?_)
    have hz18 : z18 = (xs (7 * n + 1)) := by rw [hz18]; exact congrArg xs (cl_nI (by omega))
    subst hz18
    refine lv_if_eq (tgt := 164) hx hb dL_law_157 (by decide) (fun w => absurd w cb) (fun _ => ?_)
    refine lv_iconst (v := 1) hx hb dL_law_160 (by decide) ?_
    refine lv_goto (tgt := 165) hx hb dL_law_161 (by decide) ?_
    refine lv_aload_n hx hb dL_law_165 rfl (lv_at hl 3 rfl) ?_
    refine lv_iload_n hx hb dL_law_166 rfl (lv_at hl 0 rfl) ?_
    refine lv_iconst (v := 2) hx hb dL_law_167 (by decide) ?_
    refine lv_iadd hx hb dL_law_168 ?_
    refine lv_topi (fun z19 hz19 => ?_)
    have hz19 : z19 = (nI (7 * n + 2)) := by rw [hz19]; exact nI_add (7 * n) 2
    subst hz19
    refine va_sld S.1 S.2.1 hXs hbl (Nat.not_le.mpr hbl) hMr.2.1 (vp_in_nI (n := 7 * n + 2) (by omega) (by omega)) dL_law_169 ?_
    refine lv_topi (fun z20 hz20 => ?_)
    have hz20 : z20 = (xs (7 * n + 2)) := by rw [hz20]; exact congrArg xs (cl_nI (by omega))
    subst hz20
    refine lv_aload_n hx hb dL_law_170 rfl (lv_at hl 3 rfl) ?_
    refine lv_iload_n hx hb dL_law_171 rfl (lv_at hl 0 rfl) ?_
    refine lv_iconst (v := 3) hx hb dL_law_172 (by decide) ?_
    refine lv_iadd hx hb dL_law_173 ?_
    refine lv_topi (fun z21 hz21 => ?_)
    have hz21 : z21 = (nI (7 * n + 3)) := by rw [hz21]; exact nI_add (7 * n) 3
    subst hz21
    refine va_sld S.1 S.2.1 hXs hbl (Nat.not_le.mpr hbl) hMr.2.1 (vp_in_nI (n := 7 * n + 3) (by omega) (by omega)) dL_law_174 ?_
    refine lv_topi (fun z22 hz22 => ?_)
    have hz22 : z22 = (xs (7 * n + 3)) := by rw [hz22]; exact congrArg xs (cl_nI (by omega))
    subst hz22
    refine mc_i hMr (rVm (rest := [.int r1]) S hK hMr cI5 (RS.c0 hR) rfl (c_X5_row l D cT hR hI (show n ≤ 512 by omega) 1 (xs (7 * n + 2)) (xs (7 * n + 3)) H1.size) sm_X5_row w_2_169 w_2_167 ⟨Nat.le_of_ble_eq_true rfl, Nat.le_of_ble_eq_true rfl⟩ ⟨rfl, rfl⟩ rfl hl.1 rfl (Nat.le_of_ble_eq_true rfl) dL_law_175 ⟨by show 100 + 2 * n + 1 + 0 ≤ 600000; omega, by show 20000 + 16 * n + 16 + 0 ≤ 7302250; omega⟩) (fun r2 Mr1 H2 locs2 hp2 hMr2 hz2 hk2 hB2 => ?_)
    have hMx2 := hMx1.hp.other hd1.symm hk2
    have hd2 := (dis.next hMx1.hp hd1.symm hB2).symm
    obtain ⟨e1, ad1, had, hX1⟩ := hp1
    obtain ⟨e2, hR1⟩ := hp2
    refine lv_icmp_eq (tgt := 1080) hx hb dL_law_178 (by decide) (fun _ => ?_) (fun w => absurd (e1.trans e2.symm) w)
    exact nx ad1 Mx1 Mr1 H2 locs2 _ _ _ had hX1 hR1 (INV.row 1 (xs (7 * n + 2)) (xs (7 * n + 3)) hI (show n < 512 by omega)) hMr2 hMx2 hd2 (by omega) (by omega) ls hl
set_option maxHeartbeats 4000000 in
set_option maxRecDepth 100000 in
theorem law_share (S : CallFix p m c code 4 s #[Value.ref b] lw_all RL) (hK : KK D cT s) (hXs : va_X b L xs s s.heap) (hbl : b < s.heap.size) (hL : L ≤ 3584) (h7 : 7 * n + 7 ≤ L) (hX : XS cT fu fd ad Mx z) (hR : RS cT a Mr z) (hI : INV n z) (hMx : HM D (A0 s) Mx s.heap H locs) (hMr : HP D (A0 s) Mr H) (hd : dis Mx Mr) (nx : ∀ (ad1 : Nat → Nat → Nat) (Mx1 Mr1 : hmp) (H1 : Heap) (locs1 : List Loc) (z1 : SG) (k1 k2 : Nat), ad1 0 0 = ad 0 0 → XS cT fu fd ad1 Mx1 z1 → RS cT a Mr1 z1 → INV (n + 1) z1 → HM D (A0 s) Mr1 s.heap H1 locs1 → HP D (A0 s) Mx1 H1 → dis Mx1 Mr1 → k1 ≤ 100 + 2 * (n + 1) → k2 ≤ 20000 + 16 * (n + 1) → ∀ ls, lv_has ls 4 [(3, .int (nI (7 * n))), (2, .ref (a 0)), (1, .ref (ad 0 0)), (0, .ref b)] → W p l e room_1 s m #[Value.ref b] below meth c H1 locs1 k1 k2 Q (F0 m 1080 ls [])) : ∀ ls, lv_has ls 4 [(3, .int (nI (7 * n))), (2, .ref (a 0)), (1, .ref (ad 0 0)), (0, .ref b)] → W p l e room_1 s m #[Value.ref b] below meth c H locs (100 + 2 * n) (20000 + 16 * n) Q (F0 m 183 ls []) := by
  intro ls hl
  have hx := S.1
  have hb := S.2.1
  have hml := S.2.2.1
  have hown := S.2.2.2.1
  have hts := S.2.2.2.2
  refine lv_aload_n hx hb dL_law_183 rfl (lv_at hl 2 rfl) ?_
  refine lv_aload_n hx hb dL_law_184 rfl (lv_at hl 3 rfl) ?_
  refine lv_iload_n hx hb dL_law_185 rfl (lv_at hl 0 rfl) ?_
  refine lv_iconst (v := 1) hx hb dL_law_186 (by decide) ?_
  refine lv_iadd hx hb dL_law_187 ?_
  refine lv_topi (fun z1 hz1 => ?_)
  have hz1 : z1 = (nI (7 * n + 1)) := by rw [hz1]; exact nI_add (7 * n) 1
  subst hz1
  refine va_sld S.1 S.2.1 hXs hbl (Nat.not_le.mpr hbl) hMx.2.1 (vp_in_nI (n := 7 * n + 1) (by omega) (by omega)) dL_law_188 ?_
  refine lv_topi (fun z2 hz2 => ?_)
  have hz2 : z2 = (xs (7 * n + 1)) := by rw [hz2]; exact congrArg xs (cl_nI (by omega))
  subst hz2
  refine lv_if_eq (tgt := 196) hx hb dL_law_189 (by decide) (fun cb => ?_) (fun cb => ?_)
  · skip
    refine lv_iconst (v := 0) hx hb dL_law_196 (by decide) ?_
    refine lv_aload_n hx hb dL_law_197 rfl (lv_at hl 3 rfl) ?_
    refine lv_iload_n hx hb dL_law_198 rfl (lv_at hl 0 rfl) ?_
    refine lv_iconst (v := 2) hx hb dL_law_199 (by decide) ?_
    refine lv_iadd hx hb dL_law_200 ?_
    refine lv_topi (fun z3 hz3 => ?_)
    have hz3 : z3 = (nI (7 * n + 2)) := by rw [hz3]; exact nI_add (7 * n) 2
    subst hz3
    refine va_sld S.1 S.2.1 hXs hbl (Nat.not_le.mpr hbl) hMx.2.1 (vp_in_nI (n := 7 * n + 2) (by omega) (by omega)) dL_law_201 ?_
    refine lv_topi (fun z4 hz4 => ?_)
    have hz4 : z4 = (xs (7 * n + 2)) := by rw [hz4]; exact congrArg xs (cl_nI (by omega))
    subst hz4
    refine lv_aload_n hx hb dL_law_202 rfl (lv_at hl 3 rfl) ?_
    refine lv_iload_n hx hb dL_law_203 rfl (lv_at hl 0 rfl) ?_
    refine lv_iconst (v := 3) hx hb dL_law_204 (by decide) ?_
    refine lv_iadd hx hb dL_law_205 ?_
    refine lv_topi (fun z5 hz5 => ?_)
    have hz5 : z5 = (nI (7 * n + 3)) := by rw [hz5]; exact nI_add (7 * n) 3
    subst hz5
    refine va_sld S.1 S.2.1 hXs hbl (Nat.not_le.mpr hbl) hMx.2.1 (vp_in_nI (n := 7 * n + 3) (by omega) (by omega)) dL_law_206 ?_
    refine lv_topi (fun z6 hz6 => ?_)
    have hz6 : z6 = (xs (7 * n + 3)) := by rw [hz6]; exact congrArg xs (cl_nI (by omega))
    subst hz6
    refine mc_i hMx (rVm (rest := []) S hK hMx cI4 (XS.c0 hX) rfl (c_X4_share l D cT hX hI (show n < 512 by omega) 0 (xs (7 * n + 2)) (xs (7 * n + 3)) H.size) sm_X4_share w_1_86 w_1_84 ⟨Nat.le_of_ble_eq_true rfl, Nat.le_of_ble_eq_true rfl⟩ ⟨rfl, rfl⟩ rfl hl.1 rfl (Nat.le_of_ble_eq_true rfl) dL_law_207 ⟨by show 100 + 2 * n + 0 ≤ 600000; omega, by show 20000 + 16 * n + 0 ≤ 7302250; omega⟩) (fun r1 Mx1 H1 locs1 hp1 hMx1 hz1 hk1 hB1 => ?_)
    have hMr1 := hMr.other hd hk1
    have hd1 := dis.next hMr hd hB1
    have hMr : HM D (A0 s) Mr s.heap H1 locs1 := ⟨hMx1.1, hMx1.2.1, hMr1⟩
    refine lv_aload_n hx hb dL_law_210 rfl (lv_at hl 1 rfl) ?_
    refine lv_aload_n hx hb dL_law_211 rfl (lv_at hl 3 rfl) ?_
    refine lv_iload_n hx hb dL_law_212 rfl (lv_at hl 0 rfl) ?_
    refine lv_iconst (v := 1) hx hb dL_law_213 (by decide) ?_
    refine lv_iadd hx hb dL_law_214 ?_
    refine lv_topi (fun z7 hz7 => ?_)
    have hz7 : z7 = (nI (7 * n + 1)) := by rw [hz7]; exact nI_add (7 * n) 1
    subst hz7
    refine va_sld S.1 S.2.1 hXs hbl (Nat.not_le.mpr hbl) hMr.2.1 (vp_in_nI (n := 7 * n + 1) (by omega) (by omega)) dL_law_215 ?_
    refine lv_topi (fun z8 hz8 => ?_)
    have hz8 : z8 = (xs (7 * n + 1)) := by rw [hz8]; exact congrArg xs (cl_nI (by omega))
    subst hz8
    refine lv_if_eq (tgt := 223) hx hb dL_law_216 (by decide) (fun _ => ?_) (fun w => absurd cb w)
    refine lv_iconst (v := 0) hx hb dL_law_223 (by decide) ?_
    refine lv_aload_n hx hb dL_law_224 rfl (lv_at hl 3 rfl) ?_
    refine lv_iload_n hx hb dL_law_225 rfl (lv_at hl 0 rfl) ?_
    refine lv_iconst (v := 2) hx hb dL_law_226 (by decide) ?_
    refine lv_iadd hx hb dL_law_227 ?_
    refine lv_topi (fun z9 hz9 => ?_)
    have hz9 : z9 = (nI (7 * n + 2)) := by rw [hz9]; exact nI_add (7 * n) 2
    subst hz9
    refine va_sld S.1 S.2.1 hXs hbl (Nat.not_le.mpr hbl) hMr.2.1 (vp_in_nI (n := 7 * n + 2) (by omega) (by omega)) dL_law_228 ?_
    refine lv_topi (fun z10 hz10 => ?_)
    have hz10 : z10 = (xs (7 * n + 2)) := by rw [hz10]; exact congrArg xs (cl_nI (by omega))
    subst hz10
    refine lv_aload_n hx hb dL_law_229 rfl (lv_at hl 3 rfl) ?_
    refine lv_iload_n hx hb dL_law_230 rfl (lv_at hl 0 rfl) ?_
    refine lv_iconst (v := 3) hx hb dL_law_231 (by decide) ?_
    refine lv_iadd hx hb dL_law_232 ?_
    refine lv_topi (fun z11 hz11 => ?_)
    have hz11 : z11 = (nI (7 * n + 3)) := by rw [hz11]; exact nI_add (7 * n) 3
    subst hz11
    refine va_sld S.1 S.2.1 hXs hbl (Nat.not_le.mpr hbl) hMr.2.1 (vp_in_nI (n := 7 * n + 3) (by omega) (by omega)) dL_law_233 ?_
    refine lv_topi (fun z12 hz12 => ?_)
    have hz12 : z12 = (xs (7 * n + 3)) := by rw [hz12]; exact congrArg xs (cl_nI (by omega))
    subst hz12
    refine mc_i hMr (rVm (rest := [.int r1]) S hK hMr cI5 (RS.c0 hR) rfl (c_X5_share l D cT hR hI (show n ≤ 512 by omega) 0 (xs (7 * n + 2)) (xs (7 * n + 3)) H1.size) sm_X5_share w_2_179 w_2_177 ⟨Nat.le_of_ble_eq_true rfl, Nat.le_of_ble_eq_true rfl⟩ ⟨rfl, rfl⟩ rfl hl.1 rfl (Nat.le_of_ble_eq_true rfl) dL_law_234 ⟨by show 100 + 2 * n + 0 + 0 ≤ 600000; omega, by show 20000 + 16 * n + 0 + 0 ≤ 7302250; omega⟩) (fun r2 Mr1 H2 locs2 hp2 hMr2 hz2 hk2 hB2 => ?_)
    have hMx2 := hMx1.hp.other hd1.symm hk2
    have hd2 := (dis.next hMx1.hp hd1.symm hB2).symm
    obtain ⟨e1, ad1, had, hX1⟩ := hp1
    obtain ⟨e2, hR1⟩ := hp2
    refine lv_icmp_eq (tgt := 1080) hx hb dL_law_237 (by decide) (fun _ => ?_) (fun w => absurd (e1.trans e2.symm) w)
    exact nx ad1 Mx1 Mr1 H2 locs2 _ _ _ had hX1 hR1 (INV.share 0 (xs (7 * n + 2)) (xs (7 * n + 3)) hI) hMr2 hMx2 hd2 (by omega) (by omega) ls hl
  · skip
    refine lv_iconst (v := 1) hx hb dL_law_192 (by decide) ?_
    refine lv_goto (tgt := 197) hx hb dL_law_193 (by decide) ?_
    refine lv_aload_n hx hb dL_law_197 rfl (lv_at hl 3 rfl) ?_
    refine lv_iload_n hx hb dL_law_198 rfl (lv_at hl 0 rfl) ?_
    refine lv_iconst (v := 2) hx hb dL_law_199 (by decide) ?_
    refine lv_iadd hx hb dL_law_200 ?_
    refine lv_topi (fun z13 hz13 => ?_)
    have hz13 : z13 = (nI (7 * n + 2)) := by rw [hz13]; exact nI_add (7 * n) 2
    subst hz13
    refine va_sld S.1 S.2.1 hXs hbl (Nat.not_le.mpr hbl) hMx.2.1 (vp_in_nI (n := 7 * n + 2) (by omega) (by omega)) dL_law_201 ?_
    refine lv_topi (fun z14 hz14 => ?_)
    have hz14 : z14 = (xs (7 * n + 2)) := by rw [hz14]; exact congrArg xs (cl_nI (by omega))
    subst hz14
    refine lv_aload_n hx hb dL_law_202 rfl (lv_at hl 3 rfl) ?_
    refine lv_iload_n hx hb dL_law_203 rfl (lv_at hl 0 rfl) ?_
    refine lv_iconst (v := 3) hx hb dL_law_204 (by decide) ?_
    refine lv_iadd hx hb dL_law_205 ?_
    refine lv_topi (fun z15 hz15 => ?_)
    have hz15 : z15 = (nI (7 * n + 3)) := by rw [hz15]; exact nI_add (7 * n) 3
    subst hz15
    refine va_sld S.1 S.2.1 hXs hbl (Nat.not_le.mpr hbl) hMx.2.1 (vp_in_nI (n := 7 * n + 3) (by omega) (by omega)) dL_law_206 ?_
    refine lv_topi (fun z16 hz16 => ?_)
    have hz16 : z16 = (xs (7 * n + 3)) := by rw [hz16]; exact congrArg xs (cl_nI (by omega))
    subst hz16
    refine mc_i hMx (rVm (rest := []) S hK hMx cI4 (XS.c0 hX) rfl (c_X4_share l D cT hX hI (show n < 512 by omega) 1 (xs (7 * n + 2)) (xs (7 * n + 3)) H.size) sm_X4_share w_1_86 w_1_84 ⟨Nat.le_of_ble_eq_true rfl, Nat.le_of_ble_eq_true rfl⟩ ⟨rfl, rfl⟩ rfl hl.1 rfl (Nat.le_of_ble_eq_true rfl) dL_law_207 ⟨by show 100 + 2 * n + 0 ≤ 600000; omega, by show 20000 + 16 * n + 0 ≤ 7302250; omega⟩) (fun r1 Mx1 H1 locs1 hp1 hMx1 hz1 hk1 hB1 => ?_)
    have hMr1 := hMr.other hd hk1
    have hd1 := dis.next hMr hd hB1
    have hMr : HM D (A0 s) Mr s.heap H1 locs1 := ⟨hMx1.1, hMx1.2.1, hMr1⟩
    refine lv_aload_n hx hb dL_law_210 rfl (lv_at hl 1 rfl) ?_
    refine lv_aload_n hx hb dL_law_211 rfl (lv_at hl 3 rfl) ?_
    refine lv_iload_n hx hb dL_law_212 rfl (lv_at hl 0 rfl) ?_
    refine lv_iconst (v := 1) hx hb dL_law_213 (by decide) ?_
    refine lv_iadd hx hb dL_law_214 ?_
    refine lv_topi (fun z17 hz17 => ?_)
    have hz17 : z17 = (nI (7 * n + 1)) := by rw [hz17]; exact nI_add (7 * n) 1
    subst hz17
    refine va_sld S.1 S.2.1 hXs hbl (Nat.not_le.mpr hbl) hMr.2.1 (vp_in_nI (n := 7 * n + 1) (by omega) (by omega)) dL_law_215 ?_
    refine lv_topi (fun z18 hz18 => ?_)
    have hz18 : z18 = (xs (7 * n + 1)) := by rw [hz18]; exact congrArg xs (cl_nI (by omega))
    subst hz18
    refine lv_if_eq (tgt := 223) hx hb dL_law_216 (by decide) (fun w => absurd w cb) (fun _ => ?_)
    refine lv_iconst (v := 1) hx hb dL_law_219 (by decide) ?_
    refine lv_goto (tgt := 224) hx hb dL_law_220 (by decide) ?_
    refine lv_aload_n hx hb dL_law_224 rfl (lv_at hl 3 rfl) ?_
    refine lv_iload_n hx hb dL_law_225 rfl (lv_at hl 0 rfl) ?_
    refine lv_iconst (v := 2) hx hb dL_law_226 (by decide) ?_
    refine lv_iadd hx hb dL_law_227 ?_
    refine lv_topi (fun z19 hz19 => ?_)
    have hz19 : z19 = (nI (7 * n + 2)) := by rw [hz19]; exact nI_add (7 * n) 2
    subst hz19
    refine va_sld S.1 S.2.1 hXs hbl (Nat.not_le.mpr hbl) hMr.2.1 (vp_in_nI (n := 7 * n + 2) (by omega) (by omega)) dL_law_228 ?_
    refine lv_topi (fun z20 hz20 => ?_)
    have hz20 : z20 = (xs (7 * n + 2)) := by rw [hz20]; exact congrArg xs (cl_nI (by omega))
    subst hz20
    refine lv_aload_n hx hb dL_law_229 rfl (lv_at hl 3 rfl) ?_
    refine lv_iload_n hx hb dL_law_230 rfl (lv_at hl 0 rfl) ?_
    refine lv_iconst (v := 3) hx hb dL_law_231 (by decide) ?_
    refine lv_iadd hx hb dL_law_232 ?_
    refine lv_topi (fun z21 hz21 => ?_)
    have hz21 : z21 = (nI (7 * n + 3)) := by rw [hz21]; exact nI_add (7 * n) 3
    subst hz21
    refine va_sld S.1 S.2.1 hXs hbl (Nat.not_le.mpr hbl) hMr.2.1 (vp_in_nI (n := 7 * n + 3) (by omega) (by omega)) dL_law_233 ?_
    refine lv_topi (fun z22 hz22 => ?_)
    have hz22 : z22 = (xs (7 * n + 3)) := by rw [hz22]; exact congrArg xs (cl_nI (by omega))
    subst hz22
    refine mc_i hMr (rVm (rest := [.int r1]) S hK hMr cI5 (RS.c0 hR) rfl (c_X5_share l D cT hR hI (show n ≤ 512 by omega) 1 (xs (7 * n + 2)) (xs (7 * n + 3)) H1.size) sm_X5_share w_2_179 w_2_177 ⟨Nat.le_of_ble_eq_true rfl, Nat.le_of_ble_eq_true rfl⟩ ⟨rfl, rfl⟩ rfl hl.1 rfl (Nat.le_of_ble_eq_true rfl) dL_law_234 ⟨by show 100 + 2 * n + 0 + 0 ≤ 600000; omega, by show 20000 + 16 * n + 0 + 0 ≤ 7302250; omega⟩) (fun r2 Mr1 H2 locs2 hp2 hMr2 hz2 hk2 hB2 => ?_)
    have hMx2 := hMx1.hp.other hd1.symm hk2
    have hd2 := (dis.next hMx1.hp hd1.symm hB2).symm
    obtain ⟨e1, ad1, had, hX1⟩ := hp1
    obtain ⟨e2, hR1⟩ := hp2
    refine lv_icmp_eq (tgt := 1080) hx hb dL_law_237 (by decide) (fun _ => ?_) (fun w => absurd (e1.trans e2.symm) w)
    exact nx ad1 Mx1 Mr1 H2 locs2 _ _ _ had hX1 hR1 (INV.share 1 (xs (7 * n + 2)) (xs (7 * n + 3)) hI) hMr2 hMx2 hd2 (by omega) (by omega) ls hl
set_option maxHeartbeats 4000000 in
set_option maxRecDepth 100000 in
theorem law_drop (S : CallFix p m c code 4 s #[Value.ref b] lw_all RL) (hK : KK D cT s) (hXs : va_X b L xs s s.heap) (hbl : b < s.heap.size) (hL : L ≤ 3584) (h7 : 7 * n + 7 ≤ L) (hX : XS cT fu fd ad Mx z) (hR : RS cT a Mr z) (hI : INV n z) (hMx : HM D (A0 s) Mx s.heap H locs) (hMr : HP D (A0 s) Mr H) (hd : dis Mx Mr) (nx : ∀ (ad1 : Nat → Nat → Nat) (Mx1 Mr1 : hmp) (H1 : Heap) (locs1 : List Loc) (z1 : SG) (k1 k2 : Nat), ad1 0 0 = ad 0 0 → XS cT fu fd ad1 Mx1 z1 → RS cT a Mr1 z1 → INV (n + 1) z1 → HM D (A0 s) Mr1 s.heap H1 locs1 → HP D (A0 s) Mx1 H1 → dis Mx1 Mr1 → k1 ≤ 100 + 2 * (n + 1) → k2 ≤ 20000 + 16 * (n + 1) → ∀ ls, lv_has ls 4 [(3, .int (nI (7 * n))), (2, .ref (a 0)), (1, .ref (ad 0 0)), (0, .ref b)] → W p l e room_1 s m #[Value.ref b] below meth c H1 locs1 k1 k2 Q (F0 m 1080 ls [])) : ∀ ls, lv_has ls 4 [(3, .int (nI (7 * n))), (2, .ref (a 0)), (1, .ref (ad 0 0)), (0, .ref b)] → W p l e room_1 s m #[Value.ref b] below meth c H locs (100 + 2 * n) (20000 + 16 * n) Q (F0 m 242 ls []) := by
  intro ls hl
  have hx := S.1
  have hb := S.2.1
  have hml := S.2.2.1
  have hown := S.2.2.2.1
  have hts := S.2.2.2.2
  refine lv_aload_n hx hb dL_law_242 rfl (lv_at hl 2 rfl) ?_
  refine lv_aload_n hx hb dL_law_243 rfl (lv_at hl 3 rfl) ?_
  refine lv_iload_n hx hb dL_law_244 rfl (lv_at hl 0 rfl) ?_
  refine lv_iconst (v := 1) hx hb dL_law_245 (by decide) ?_
  refine lv_iadd hx hb dL_law_246 ?_
  refine lv_topi (fun z1 hz1 => ?_)
  have hz1 : z1 = (nI (7 * n + 1)) := by rw [hz1]; exact nI_add (7 * n) 1
  subst hz1
  refine va_sld S.1 S.2.1 hXs hbl (Nat.not_le.mpr hbl) hMx.2.1 (vp_in_nI (n := 7 * n + 1) (by omega) (by omega)) dL_law_247 ?_
  refine lv_topi (fun z2 hz2 => ?_)
  have hz2 : z2 = (xs (7 * n + 1)) := by rw [hz2]; exact congrArg xs (cl_nI (by omega))
  subst hz2
  refine lv_if_eq (tgt := 255) hx hb dL_law_248 (by decide) (fun cb => ?_) (fun cb => ?_)
  · skip
    refine lv_iconst (v := 0) hx hb dL_law_255 (by decide) ?_
    refine lv_aload_n hx hb dL_law_256 rfl (lv_at hl 3 rfl) ?_
    refine lv_iload_n hx hb dL_law_257 rfl (lv_at hl 0 rfl) ?_
    refine lv_iconst (v := 2) hx hb dL_law_258 (by decide) ?_
    refine lv_iadd hx hb dL_law_259 ?_
    refine lv_topi (fun z3 hz3 => ?_)
    have hz3 : z3 = (nI (7 * n + 2)) := by rw [hz3]; exact nI_add (7 * n) 2
    subst hz3
    refine va_sld S.1 S.2.1 hXs hbl (Nat.not_le.mpr hbl) hMx.2.1 (vp_in_nI (n := 7 * n + 2) (by omega) (by omega)) dL_law_260 ?_
    refine lv_topi (fun z4 hz4 => ?_)
    have hz4 : z4 = (xs (7 * n + 2)) := by rw [hz4]; exact congrArg xs (cl_nI (by omega))
    subst hz4
    refine mc_i hMx (rVm (rest := []) S hK hMx cI4 (XS.c0 hX) rfl (c_X4_drop l D cT hX hI (show n < 512 by omega) 0 (xs (7 * n + 2)) H.size) sm_X4_drop w_1_90 w_1_88 ⟨Nat.le_of_ble_eq_true rfl, Nat.le_of_ble_eq_true rfl⟩ ⟨rfl, rfl⟩ rfl hl.1 rfl (Nat.le_of_ble_eq_true rfl) dL_law_261 ⟨by show 100 + 2 * n + 0 ≤ 600000; omega, by show 20000 + 16 * n + 0 ≤ 7302250; omega⟩) (fun r1 Mx1 H1 locs1 hp1 hMx1 hz1 hk1 hB1 => ?_)
    have hMr1 := hMr.other hd hk1
    have hd1 := dis.next hMr hd hB1
    have hMr : HM D (A0 s) Mr s.heap H1 locs1 := ⟨hMx1.1, hMx1.2.1, hMr1⟩
    refine lv_aload_n hx hb dL_law_264 rfl (lv_at hl 1 rfl) ?_
    refine lv_aload_n hx hb dL_law_265 rfl (lv_at hl 3 rfl) ?_
    refine lv_iload_n hx hb dL_law_266 rfl (lv_at hl 0 rfl) ?_
    refine lv_iconst (v := 1) hx hb dL_law_267 (by decide) ?_
    refine lv_iadd hx hb dL_law_268 ?_
    refine lv_topi (fun z5 hz5 => ?_)
    have hz5 : z5 = (nI (7 * n + 1)) := by rw [hz5]; exact nI_add (7 * n) 1
    subst hz5
    refine va_sld S.1 S.2.1 hXs hbl (Nat.not_le.mpr hbl) hMr.2.1 (vp_in_nI (n := 7 * n + 1) (by omega) (by omega)) dL_law_269 ?_
    refine lv_topi (fun z6 hz6 => ?_)
    have hz6 : z6 = (xs (7 * n + 1)) := by rw [hz6]; exact congrArg xs (cl_nI (by omega))
    subst hz6
    refine lv_if_eq (tgt := 277) hx hb dL_law_270 (by decide) (fun _ => ?_) (fun w => absurd cb w)
    refine lv_iconst (v := 0) hx hb dL_law_277 (by decide) ?_
    refine lv_aload_n hx hb dL_law_278 rfl (lv_at hl 3 rfl) ?_
    refine lv_iload_n hx hb dL_law_279 rfl (lv_at hl 0 rfl) ?_
    refine lv_iconst (v := 2) hx hb dL_law_280 (by decide) ?_
    refine lv_iadd hx hb dL_law_281 ?_
    refine lv_topi (fun z7 hz7 => ?_)
    have hz7 : z7 = (nI (7 * n + 2)) := by rw [hz7]; exact nI_add (7 * n) 2
    subst hz7
    refine va_sld S.1 S.2.1 hXs hbl (Nat.not_le.mpr hbl) hMr.2.1 (vp_in_nI (n := 7 * n + 2) (by omega) (by omega)) dL_law_282 ?_
    refine lv_topi (fun z8 hz8 => ?_)
    have hz8 : z8 = (xs (7 * n + 2)) := by rw [hz8]; exact congrArg xs (cl_nI (by omega))
    subst hz8
    refine mc_i hMr (rVm (rest := [.int r1]) S hK hMr cI5 (RS.c0 hR) rfl (c_X5_drop l D cT hR hI (show n ≤ 512 by omega) 0 (xs (7 * n + 2)) H1.size) sm_X5_drop w_2_183 w_2_181 ⟨Nat.le_of_ble_eq_true rfl, Nat.le_of_ble_eq_true rfl⟩ ⟨rfl, rfl⟩ rfl hl.1 rfl (Nat.le_of_ble_eq_true rfl) dL_law_283 ⟨by show 100 + 2 * n + 0 + 0 ≤ 600000; omega, by show 20000 + 16 * n + 0 + 0 ≤ 7302250; omega⟩) (fun r2 Mr1 H2 locs2 hp2 hMr2 hz2 hk2 hB2 => ?_)
    have hMx2 := hMx1.hp.other hd1.symm hk2
    have hd2 := (dis.next hMx1.hp hd1.symm hB2).symm
    obtain ⟨e1, ad1, had, hX1⟩ := hp1
    obtain ⟨e2, hR1⟩ := hp2
    refine lv_icmp_eq (tgt := 1080) hx hb dL_law_286 (by decide) (fun _ => ?_) (fun w => absurd (e1.trans e2.symm) w)
    exact nx ad1 Mx1 Mr1 H2 locs2 _ _ _ had hX1 hR1 (INV.drop 0 (xs (7 * n + 2)) hI) hMr2 hMx2 hd2 (by omega) (by omega) ls hl
  · skip
    refine lv_iconst (v := 1) hx hb dL_law_251 (by decide) ?_
    refine lv_goto (tgt := 256) hx hb dL_law_252 (by decide) ?_
    refine lv_aload_n hx hb dL_law_256 rfl (lv_at hl 3 rfl) ?_
    refine lv_iload_n hx hb dL_law_257 rfl (lv_at hl 0 rfl) ?_
    refine lv_iconst (v := 2) hx hb dL_law_258 (by decide) ?_
    refine lv_iadd hx hb dL_law_259 ?_
    refine lv_topi (fun z9 hz9 => ?_)
    have hz9 : z9 = (nI (7 * n + 2)) := by rw [hz9]; exact nI_add (7 * n) 2
    subst hz9
    refine va_sld S.1 S.2.1 hXs hbl (Nat.not_le.mpr hbl) hMx.2.1 (vp_in_nI (n := 7 * n + 2) (by omega) (by omega)) dL_law_260 ?_
    refine lv_topi (fun z10 hz10 => ?_)
    have hz10 : z10 = (xs (7 * n + 2)) := by rw [hz10]; exact congrArg xs (cl_nI (by omega))
    subst hz10
    refine mc_i hMx (rVm (rest := []) S hK hMx cI4 (XS.c0 hX) rfl (c_X4_drop l D cT hX hI (show n < 512 by omega) 1 (xs (7 * n + 2)) H.size) sm_X4_drop w_1_90 w_1_88 ⟨Nat.le_of_ble_eq_true rfl, Nat.le_of_ble_eq_true rfl⟩ ⟨rfl, rfl⟩ rfl hl.1 rfl (Nat.le_of_ble_eq_true rfl) dL_law_261 ⟨by show 100 + 2 * n + 0 ≤ 600000; omega, by show 20000 + 16 * n + 0 ≤ 7302250; omega⟩) (fun r1 Mx1 H1 locs1 hp1 hMx1 hz1 hk1 hB1 => ?_)
    have hMr1 := hMr.other hd hk1
    have hd1 := dis.next hMr hd hB1
    have hMr : HM D (A0 s) Mr s.heap H1 locs1 := ⟨hMx1.1, hMx1.2.1, hMr1⟩
    refine lv_aload_n hx hb dL_law_264 rfl (lv_at hl 1 rfl) ?_
    refine lv_aload_n hx hb dL_law_265 rfl (lv_at hl 3 rfl) ?_
    refine lv_iload_n hx hb dL_law_266 rfl (lv_at hl 0 rfl) ?_
    refine lv_iconst (v := 1) hx hb dL_law_267 (by decide) ?_
    refine lv_iadd hx hb dL_law_268 ?_
    refine lv_topi (fun z11 hz11 => ?_)
    have hz11 : z11 = (nI (7 * n + 1)) := by rw [hz11]; exact nI_add (7 * n) 1
    subst hz11
    refine va_sld S.1 S.2.1 hXs hbl (Nat.not_le.mpr hbl) hMr.2.1 (vp_in_nI (n := 7 * n + 1) (by omega) (by omega)) dL_law_269 ?_
    refine lv_topi (fun z12 hz12 => ?_)
    have hz12 : z12 = (xs (7 * n + 1)) := by rw [hz12]; exact congrArg xs (cl_nI (by omega))
    subst hz12
    refine lv_if_eq (tgt := 277) hx hb dL_law_270 (by decide) (fun w => absurd w cb) (fun _ => ?_)
    refine lv_iconst (v := 1) hx hb dL_law_273 (by decide) ?_
    refine lv_goto (tgt := 278) hx hb dL_law_274 (by decide) ?_
    refine lv_aload_n hx hb dL_law_278 rfl (lv_at hl 3 rfl) ?_
    refine lv_iload_n hx hb dL_law_279 rfl (lv_at hl 0 rfl) ?_
    refine lv_iconst (v := 2) hx hb dL_law_280 (by decide) ?_
    refine lv_iadd hx hb dL_law_281 ?_
    refine lv_topi (fun z13 hz13 => ?_)
    have hz13 : z13 = (nI (7 * n + 2)) := by rw [hz13]; exact nI_add (7 * n) 2
    subst hz13
    refine va_sld S.1 S.2.1 hXs hbl (Nat.not_le.mpr hbl) hMr.2.1 (vp_in_nI (n := 7 * n + 2) (by omega) (by omega)) dL_law_282 ?_
    refine lv_topi (fun z14 hz14 => ?_)
    have hz14 : z14 = (xs (7 * n + 2)) := by rw [hz14]; exact congrArg xs (cl_nI (by omega))
    subst hz14
    refine mc_i hMr (rVm (rest := [.int r1]) S hK hMr cI5 (RS.c0 hR) rfl (c_X5_drop l D cT hR hI (show n ≤ 512 by omega) 1 (xs (7 * n + 2)) H1.size) sm_X5_drop w_2_183 w_2_181 ⟨Nat.le_of_ble_eq_true rfl, Nat.le_of_ble_eq_true rfl⟩ ⟨rfl, rfl⟩ rfl hl.1 rfl (Nat.le_of_ble_eq_true rfl) dL_law_283 ⟨by show 100 + 2 * n + 0 + 0 ≤ 600000; omega, by show 20000 + 16 * n + 0 + 0 ≤ 7302250; omega⟩) (fun r2 Mr1 H2 locs2 hp2 hMr2 hz2 hk2 hB2 => ?_)
    have hMx2 := hMx1.hp.other hd1.symm hk2
    have hd2 := (dis.next hMx1.hp hd1.symm hB2).symm
    obtain ⟨e1, ad1, had, hX1⟩ := hp1
    obtain ⟨e2, hR1⟩ := hp2
    refine lv_icmp_eq (tgt := 1080) hx hb dL_law_286 (by decide) (fun _ => ?_) (fun w => absurd (e1.trans e2.symm) w)
    exact nx ad1 Mx1 Mr1 H2 locs2 _ _ _ had hX1 hR1 (INV.drop 1 (xs (7 * n + 2)) hI) hMr2 hMx2 hd2 (by omega) (by omega) ls hl
set_option maxHeartbeats 4000000 in
set_option maxRecDepth 100000 in
theorem law_set (S : CallFix p m c code 4 s #[Value.ref b] lw_all RL) (hK : KK D cT s) (hXs : va_X b L xs s s.heap) (hbl : b < s.heap.size) (hL : L ≤ 3584) (h7 : 7 * n + 7 ≤ L) (hX : XS cT fu fd ad Mx z) (hR : RS cT a Mr z) (hI : INV n z) (hMx : HM D (A0 s) Mx s.heap H locs) (hMr : HP D (A0 s) Mr H) (hd : dis Mx Mr) (nx : ∀ (ad1 : Nat → Nat → Nat) (Mx1 Mr1 : hmp) (H1 : Heap) (locs1 : List Loc) (z1 : SG) (k1 k2 : Nat), ad1 0 0 = ad 0 0 → XS cT fu fd ad1 Mx1 z1 → RS cT a Mr1 z1 → INV (n + 1) z1 → HM D (A0 s) Mr1 s.heap H1 locs1 → HP D (A0 s) Mx1 H1 → dis Mx1 Mr1 → k1 ≤ 100 + 2 * (n + 1) → k2 ≤ 20000 + 16 * (n + 1) → ∀ ls, lv_has ls 4 [(3, .int (nI (7 * n))), (2, .ref (a 0)), (1, .ref (ad 0 0)), (0, .ref b)] → W p l e room_1 s m #[Value.ref b] below meth c H1 locs1 k1 k2 Q (F0 m 1080 ls [])) : ∀ ls, lv_has ls 4 [(3, .int (nI (7 * n))), (2, .ref (a 0)), (1, .ref (ad 0 0)), (0, .ref b)] → W p l e room_1 s m #[Value.ref b] below meth c H locs (100 + 2 * n) (20000 + 16 * n) Q (F0 m 291 ls []) := by
  intro ls hl
  have hx := S.1
  have hb := S.2.1
  have hml := S.2.2.1
  have hown := S.2.2.2.1
  have hts := S.2.2.2.2
  refine lv_aload_n hx hb dL_law_291 rfl (lv_at hl 2 rfl) ?_
  refine lv_aload_n hx hb dL_law_292 rfl (lv_at hl 3 rfl) ?_
  refine lv_iload_n hx hb dL_law_293 rfl (lv_at hl 0 rfl) ?_
  refine lv_iconst (v := 1) hx hb dL_law_294 (by decide) ?_
  refine lv_iadd hx hb dL_law_295 ?_
  refine lv_topi (fun z1 hz1 => ?_)
  have hz1 : z1 = (nI (7 * n + 1)) := by rw [hz1]; exact nI_add (7 * n) 1
  subst hz1
  refine va_sld S.1 S.2.1 hXs hbl (Nat.not_le.mpr hbl) hMx.2.1 (vp_in_nI (n := 7 * n + 1) (by omega) (by omega)) dL_law_296 ?_
  refine lv_topi (fun z2 hz2 => ?_)
  have hz2 : z2 = (xs (7 * n + 1)) := by rw [hz2]; exact congrArg xs (cl_nI (by omega))
  subst hz2
  refine lv_if_eq (tgt := 304) hx hb dL_law_297 (by decide) (fun cb => ?_) (fun cb => ?_)
  · skip
    refine lv_iconst (v := 0) hx hb dL_law_304 (by decide) ?_
    refine lv_aload_n hx hb dL_law_305 rfl (lv_at hl 3 rfl) ?_
    refine lv_iload_n hx hb dL_law_306 rfl (lv_at hl 0 rfl) ?_
    refine lv_iconst (v := 2) hx hb dL_law_307 (by decide) ?_
    refine lv_iadd hx hb dL_law_308 ?_
    refine lv_topi (fun z3 hz3 => ?_)
    have hz3 : z3 = (nI (7 * n + 2)) := by rw [hz3]; exact nI_add (7 * n) 2
    subst hz3
    refine va_sld S.1 S.2.1 hXs hbl (Nat.not_le.mpr hbl) hMx.2.1 (vp_in_nI (n := 7 * n + 2) (by omega) (by omega)) dL_law_309 ?_
    refine lv_topi (fun z4 hz4 => ?_)
    have hz4 : z4 = (xs (7 * n + 2)) := by rw [hz4]; exact congrArg xs (cl_nI (by omega))
    subst hz4
    refine lv_aload_n hx hb dL_law_310 rfl (lv_at hl 3 rfl) ?_
    refine lv_iload_n hx hb dL_law_311 rfl (lv_at hl 0 rfl) ?_
    refine lv_iconst (v := 3) hx hb dL_law_312 (by decide) ?_
    refine lv_iadd hx hb dL_law_313 ?_
    refine lv_topi (fun z5 hz5 => ?_)
    have hz5 : z5 = (nI (7 * n + 3)) := by rw [hz5]; exact nI_add (7 * n) 3
    subst hz5
    refine va_sld S.1 S.2.1 hXs hbl (Nat.not_le.mpr hbl) hMx.2.1 (vp_in_nI (n := 7 * n + 3) (by omega) (by omega)) dL_law_314 ?_
    refine lv_topi (fun z6 hz6 => ?_)
    have hz6 : z6 = (xs (7 * n + 3)) := by rw [hz6]; exact congrArg xs (cl_nI (by omega))
    subst hz6
    refine lv_aload_n hx hb dL_law_315 rfl (lv_at hl 3 rfl) ?_
    refine lv_iload_n hx hb dL_law_316 rfl (lv_at hl 0 rfl) ?_
    refine lv_iconst (v := 4) hx hb dL_law_317 (by decide) ?_
    refine lv_iadd hx hb dL_law_318 ?_
    refine lv_topi (fun z7 hz7 => ?_)
    have hz7 : z7 = (nI (7 * n + 4)) := by rw [hz7]; exact nI_add (7 * n) 4
    subst hz7
    refine va_sld S.1 S.2.1 hXs hbl (Nat.not_le.mpr hbl) hMx.2.1 (vp_in_nI (n := 7 * n + 4) (by omega) (by omega)) dL_law_319 ?_
    refine lv_topi (fun z8 hz8 => ?_)
    have hz8 : z8 = (xs (7 * n + 4)) := by rw [hz8]; exact congrArg xs (cl_nI (by omega))
    subst hz8
    refine lv_i2l hx hb dL_law_320 rfl ?_
    refine lv_bipush (v := 32) hx hb dL_law_321 (by decide) ?_
    refine lv_lshl hx hb dL_law_323 rfl ?_
    refine lv_aload_n hx hb dL_law_324 rfl (lv_at hl 3 rfl) ?_
    refine lv_iload_n hx hb dL_law_325 rfl (lv_at hl 0 rfl) ?_
    refine lv_iconst (v := 5) hx hb dL_law_326 (by decide) ?_
    refine lv_iadd hx hb dL_law_327 ?_
    refine lv_topi (fun z9 hz9 => ?_)
    have hz9 : z9 = (nI (7 * n + 5)) := by rw [hz9]; exact nI_add (7 * n) 5
    subst hz9
    refine va_sld S.1 S.2.1 hXs hbl (Nat.not_le.mpr hbl) hMx.2.1 (vp_in_nI (n := 7 * n + 5) (by omega) (by omega)) dL_law_328 ?_
    refine lv_topi (fun z10 hz10 => ?_)
    have hz10 : z10 = (xs (7 * n + 5)) := by rw [hz10]; exact congrArg xs (cl_nI (by omega))
    subst hz10
    refine lv_i2l hx hb dL_law_329 rfl ?_
    refine lv_ldc2 hx hb hown (hts _ w_3_86) dL_law_330 ?_
    refine lv_land hx hb dL_law_333 ?_
    refine lv_lor hx hb dL_law_334 ?_
    refine mc_i hMx (rVm (rest := []) S hK hMx cI4 (XS.c0 hX) rfl (c_X4_set l D cT hX hI (show n < 512 by omega) 0 (xs (7 * n + 2)) (xs (7 * n + 3)) (((Int32.toInt64 (xs (7 * n + 4))) <<< (Int32.toInt64 32 &&& 63)) ||| ((Int32.toInt64 (xs (7 * n + 5))) &&& 4294967295)) H.size) sm_X4_set w_1_94 w_1_92 ⟨Nat.le_of_ble_eq_true rfl, Nat.le_of_ble_eq_true rfl⟩ ⟨rfl, rfl⟩ rfl hl.1 rfl (Nat.le_of_ble_eq_true rfl) dL_law_335 ⟨by show 100 + 2 * n + 0 ≤ 600000; omega, by show 20000 + 16 * n + 0 ≤ 7302250; omega⟩) (fun r1 Mx1 H1 locs1 hp1 hMx1 hz1 hk1 hB1 => ?_)
    have hMr1 := hMr.other hd hk1
    have hd1 := dis.next hMr hd hB1
    have hMr : HM D (A0 s) Mr s.heap H1 locs1 := ⟨hMx1.1, hMx1.2.1, hMr1⟩
    refine lv_aload_n hx hb dL_law_338 rfl (lv_at hl 1 rfl) ?_
    refine lv_aload_n hx hb dL_law_339 rfl (lv_at hl 3 rfl) ?_
    refine lv_iload_n hx hb dL_law_340 rfl (lv_at hl 0 rfl) ?_
    refine lv_iconst (v := 1) hx hb dL_law_341 (by decide) ?_
    refine lv_iadd hx hb dL_law_342 ?_
    refine lv_topi (fun z11 hz11 => ?_)
    have hz11 : z11 = (nI (7 * n + 1)) := by rw [hz11]; exact nI_add (7 * n) 1
    subst hz11
    refine va_sld S.1 S.2.1 hXs hbl (Nat.not_le.mpr hbl) hMr.2.1 (vp_in_nI (n := 7 * n + 1) (by omega) (by omega)) dL_law_343 ?_
    refine lv_topi (fun z12 hz12 => ?_)
    have hz12 : z12 = (xs (7 * n + 1)) := by rw [hz12]; exact congrArg xs (cl_nI (by omega))
    subst hz12
    refine lv_if_eq (tgt := 351) hx hb dL_law_344 (by decide) (fun _ => ?_) (fun w => absurd cb w)
    refine lv_iconst (v := 0) hx hb dL_law_351 (by decide) ?_
    refine lv_aload_n hx hb dL_law_352 rfl (lv_at hl 3 rfl) ?_
    refine lv_iload_n hx hb dL_law_353 rfl (lv_at hl 0 rfl) ?_
    refine lv_iconst (v := 2) hx hb dL_law_354 (by decide) ?_
    refine lv_iadd hx hb dL_law_355 ?_
    refine lv_topi (fun z13 hz13 => ?_)
    have hz13 : z13 = (nI (7 * n + 2)) := by rw [hz13]; exact nI_add (7 * n) 2
    subst hz13
    refine va_sld S.1 S.2.1 hXs hbl (Nat.not_le.mpr hbl) hMr.2.1 (vp_in_nI (n := 7 * n + 2) (by omega) (by omega)) dL_law_356 ?_
    refine lv_topi (fun z14 hz14 => ?_)
    have hz14 : z14 = (xs (7 * n + 2)) := by rw [hz14]; exact congrArg xs (cl_nI (by omega))
    subst hz14
    refine lv_aload_n hx hb dL_law_357 rfl (lv_at hl 3 rfl) ?_
    refine lv_iload_n hx hb dL_law_358 rfl (lv_at hl 0 rfl) ?_
    refine lv_iconst (v := 3) hx hb dL_law_359 (by decide) ?_
    refine lv_iadd hx hb dL_law_360 ?_
    refine lv_topi (fun z15 hz15 => ?_)
    have hz15 : z15 = (nI (7 * n + 3)) := by rw [hz15]; exact nI_add (7 * n) 3
    subst hz15
    refine va_sld S.1 S.2.1 hXs hbl (Nat.not_le.mpr hbl) hMr.2.1 (vp_in_nI (n := 7 * n + 3) (by omega) (by omega)) dL_law_361 ?_
    refine lv_topi (fun z16 hz16 => ?_)
    have hz16 : z16 = (xs (7 * n + 3)) := by rw [hz16]; exact congrArg xs (cl_nI (by omega))
    subst hz16
    refine lv_aload_n hx hb dL_law_362 rfl (lv_at hl 3 rfl) ?_
    refine lv_iload_n hx hb dL_law_363 rfl (lv_at hl 0 rfl) ?_
    refine lv_iconst (v := 4) hx hb dL_law_364 (by decide) ?_
    refine lv_iadd hx hb dL_law_365 ?_
    refine lv_topi (fun z17 hz17 => ?_)
    have hz17 : z17 = (nI (7 * n + 4)) := by rw [hz17]; exact nI_add (7 * n) 4
    subst hz17
    refine va_sld S.1 S.2.1 hXs hbl (Nat.not_le.mpr hbl) hMr.2.1 (vp_in_nI (n := 7 * n + 4) (by omega) (by omega)) dL_law_366 ?_
    refine lv_topi (fun z18 hz18 => ?_)
    have hz18 : z18 = (xs (7 * n + 4)) := by rw [hz18]; exact congrArg xs (cl_nI (by omega))
    subst hz18
    refine lv_i2l hx hb dL_law_367 rfl ?_
    refine lv_bipush (v := 32) hx hb dL_law_368 (by decide) ?_
    refine lv_lshl hx hb dL_law_370 rfl ?_
    refine lv_aload_n hx hb dL_law_371 rfl (lv_at hl 3 rfl) ?_
    refine lv_iload_n hx hb dL_law_372 rfl (lv_at hl 0 rfl) ?_
    refine lv_iconst (v := 5) hx hb dL_law_373 (by decide) ?_
    refine lv_iadd hx hb dL_law_374 ?_
    refine lv_topi (fun z19 hz19 => ?_)
    have hz19 : z19 = (nI (7 * n + 5)) := by rw [hz19]; exact nI_add (7 * n) 5
    subst hz19
    refine va_sld S.1 S.2.1 hXs hbl (Nat.not_le.mpr hbl) hMr.2.1 (vp_in_nI (n := 7 * n + 5) (by omega) (by omega)) dL_law_375 ?_
    refine lv_topi (fun z20 hz20 => ?_)
    have hz20 : z20 = (xs (7 * n + 5)) := by rw [hz20]; exact congrArg xs (cl_nI (by omega))
    subst hz20
    refine lv_i2l hx hb dL_law_376 rfl ?_
    refine lv_ldc2 hx hb hown (hts _ w_3_86) dL_law_377 ?_
    refine lv_land hx hb dL_law_380 ?_
    refine lv_lor hx hb dL_law_381 ?_
    refine mc_i hMr (rVm (rest := [.int r1]) S hK hMr cI5 (RS.c0 hR) rfl (c_X5_set l D cT hR hI (show n ≤ 512 by omega) 0 (xs (7 * n + 2)) (xs (7 * n + 3)) (((Int32.toInt64 (xs (7 * n + 4))) <<< (Int32.toInt64 32 &&& 63)) ||| ((Int32.toInt64 (xs (7 * n + 5))) &&& 4294967295)) H1.size) sm_X5_set w_2_187 w_2_185 ⟨Nat.le_of_ble_eq_true rfl, Nat.le_of_ble_eq_true rfl⟩ ⟨rfl, rfl⟩ rfl hl.1 rfl (Nat.le_of_ble_eq_true rfl) dL_law_382 ⟨by show 100 + 2 * n + 0 + 0 ≤ 600000; omega, by show 20000 + 16 * n + 0 + 0 ≤ 7302250; omega⟩) (fun r2 Mr1 H2 locs2 hp2 hMr2 hz2 hk2 hB2 => ?_)
    have hMx2 := hMx1.hp.other hd1.symm hk2
    have hd2 := (dis.next hMx1.hp hd1.symm hB2).symm
    obtain ⟨e1, ad1, had, hX1⟩ := hp1
    obtain ⟨e2, hR1⟩ := hp2
    refine lv_icmp_eq (tgt := 1080) hx hb dL_law_385 (by decide) (fun _ => ?_) (fun w => absurd (e1.trans e2.symm) w)
    exact nx ad1 Mx1 Mr1 H2 locs2 _ _ _ had hX1 hR1 (INV.set 0 (xs (7 * n + 2)) (xs (7 * n + 3)) (((Int32.toInt64 (xs (7 * n + 4))) <<< (Int32.toInt64 32 &&& 63)) ||| ((Int32.toInt64 (xs (7 * n + 5))) &&& 4294967295)) hI (show n < 512 by omega)) hMr2 hMx2 hd2 (by omega) (by omega) ls hl
  · skip
    refine lv_iconst (v := 1) hx hb dL_law_300 (by decide) ?_
    refine lv_goto (tgt := 305) hx hb dL_law_301 (by decide) ?_
    refine lv_aload_n hx hb dL_law_305 rfl (lv_at hl 3 rfl) ?_
    refine lv_iload_n hx hb dL_law_306 rfl (lv_at hl 0 rfl) ?_
    refine lv_iconst (v := 2) hx hb dL_law_307 (by decide) ?_
    refine lv_iadd hx hb dL_law_308 ?_
    refine lv_topi (fun z21 hz21 => ?_)
    have hz21 : z21 = (nI (7 * n + 2)) := by rw [hz21]; exact nI_add (7 * n) 2
    subst hz21
    refine va_sld S.1 S.2.1 hXs hbl (Nat.not_le.mpr hbl) hMx.2.1 (vp_in_nI (n := 7 * n + 2) (by omega) (by omega)) dL_law_309 ?_
    refine lv_topi (fun z22 hz22 => ?_)
    have hz22 : z22 = (xs (7 * n + 2)) := by rw [hz22]; exact congrArg xs (cl_nI (by omega))
    subst hz22
    refine lv_aload_n hx hb dL_law_310 rfl (lv_at hl 3 rfl) ?_
    refine lv_iload_n hx hb dL_law_311 rfl (lv_at hl 0 rfl) ?_
    refine lv_iconst (v := 3) hx hb dL_law_312 (by decide) ?_
    refine lv_iadd hx hb dL_law_313 ?_
    refine lv_topi (fun z23 hz23 => ?_)
    have hz23 : z23 = (nI (7 * n + 3)) := by rw [hz23]; exact nI_add (7 * n) 3
    subst hz23
    refine va_sld S.1 S.2.1 hXs hbl (Nat.not_le.mpr hbl) hMx.2.1 (vp_in_nI (n := 7 * n + 3) (by omega) (by omega)) dL_law_314 ?_
    refine lv_topi (fun z24 hz24 => ?_)
    have hz24 : z24 = (xs (7 * n + 3)) := by rw [hz24]; exact congrArg xs (cl_nI (by omega))
    subst hz24
    refine lv_aload_n hx hb dL_law_315 rfl (lv_at hl 3 rfl) ?_
    refine lv_iload_n hx hb dL_law_316 rfl (lv_at hl 0 rfl) ?_
    refine lv_iconst (v := 4) hx hb dL_law_317 (by decide) ?_
    refine lv_iadd hx hb dL_law_318 ?_
    refine lv_topi (fun z25 hz25 => ?_)
    have hz25 : z25 = (nI (7 * n + 4)) := by rw [hz25]; exact nI_add (7 * n) 4
    subst hz25
    refine va_sld S.1 S.2.1 hXs hbl (Nat.not_le.mpr hbl) hMx.2.1 (vp_in_nI (n := 7 * n + 4) (by omega) (by omega)) dL_law_319 ?_
    refine lv_topi (fun z26 hz26 => ?_)
    have hz26 : z26 = (xs (7 * n + 4)) := by rw [hz26]; exact congrArg xs (cl_nI (by omega))
    subst hz26
    refine lv_i2l hx hb dL_law_320 rfl ?_
    refine lv_bipush (v := 32) hx hb dL_law_321 (by decide) ?_
    refine lv_lshl hx hb dL_law_323 rfl ?_
    refine lv_aload_n hx hb dL_law_324 rfl (lv_at hl 3 rfl) ?_
    refine lv_iload_n hx hb dL_law_325 rfl (lv_at hl 0 rfl) ?_
    refine lv_iconst (v := 5) hx hb dL_law_326 (by decide) ?_
    refine lv_iadd hx hb dL_law_327 ?_
    refine lv_topi (fun z27 hz27 => ?_)
    have hz27 : z27 = (nI (7 * n + 5)) := by rw [hz27]; exact nI_add (7 * n) 5
    subst hz27
    refine va_sld S.1 S.2.1 hXs hbl (Nat.not_le.mpr hbl) hMx.2.1 (vp_in_nI (n := 7 * n + 5) (by omega) (by omega)) dL_law_328 ?_
    refine lv_topi (fun z28 hz28 => ?_)
    have hz28 : z28 = (xs (7 * n + 5)) := by rw [hz28]; exact congrArg xs (cl_nI (by omega))
    subst hz28
    refine lv_i2l hx hb dL_law_329 rfl ?_
    refine lv_ldc2 hx hb hown (hts _ w_3_86) dL_law_330 ?_
    refine lv_land hx hb dL_law_333 ?_
    refine lv_lor hx hb dL_law_334 ?_
    refine mc_i hMx (rVm (rest := []) S hK hMx cI4 (XS.c0 hX) rfl (c_X4_set l D cT hX hI (show n < 512 by omega) 1 (xs (7 * n + 2)) (xs (7 * n + 3)) (((Int32.toInt64 (xs (7 * n + 4))) <<< (Int32.toInt64 32 &&& 63)) ||| ((Int32.toInt64 (xs (7 * n + 5))) &&& 4294967295)) H.size) sm_X4_set w_1_94 w_1_92 ⟨Nat.le_of_ble_eq_true rfl, Nat.le_of_ble_eq_true rfl⟩ ⟨rfl, rfl⟩ rfl hl.1 rfl (Nat.le_of_ble_eq_true rfl) dL_law_335 ⟨by show 100 + 2 * n + 0 ≤ 600000; omega, by show 20000 + 16 * n + 0 ≤ 7302250; omega⟩) (fun r1 Mx1 H1 locs1 hp1 hMx1 hz1 hk1 hB1 => ?_)
    have hMr1 := hMr.other hd hk1
    have hd1 := dis.next hMr hd hB1
    have hMr : HM D (A0 s) Mr s.heap H1 locs1 := ⟨hMx1.1, hMx1.2.1, hMr1⟩
    refine lv_aload_n hx hb dL_law_338 rfl (lv_at hl 1 rfl) ?_
    refine lv_aload_n hx hb dL_law_339 rfl (lv_at hl 3 rfl) ?_
    refine lv_iload_n hx hb dL_law_340 rfl (lv_at hl 0 rfl) ?_
    refine lv_iconst (v := 1) hx hb dL_law_341 (by decide) ?_
    refine lv_iadd hx hb dL_law_342 ?_
    refine lv_topi (fun z29 hz29 => ?_)
    have hz29 : z29 = (nI (7 * n + 1)) := by rw [hz29]; exact nI_add (7 * n) 1
    subst hz29
    refine va_sld S.1 S.2.1 hXs hbl (Nat.not_le.mpr hbl) hMr.2.1 (vp_in_nI (n := 7 * n + 1) (by omega) (by omega)) dL_law_343 ?_
    refine lv_topi (fun z30 hz30 => ?_)
    have hz30 : z30 = (xs (7 * n + 1)) := by rw [hz30]; exact congrArg xs (cl_nI (by omega))
    subst hz30
    refine lv_if_eq (tgt := 351) hx hb dL_law_344 (by decide) (fun w => absurd w cb) (fun _ => ?_)
    refine lv_iconst (v := 1) hx hb dL_law_347 (by decide) ?_
    refine lv_goto (tgt := 352) hx hb dL_law_348 (by decide) ?_
    refine lv_aload_n hx hb dL_law_352 rfl (lv_at hl 3 rfl) ?_
    refine lv_iload_n hx hb dL_law_353 rfl (lv_at hl 0 rfl) ?_
    refine lv_iconst (v := 2) hx hb dL_law_354 (by decide) ?_
    refine lv_iadd hx hb dL_law_355 ?_
    refine lv_topi (fun z31 hz31 => ?_)
    have hz31 : z31 = (nI (7 * n + 2)) := by rw [hz31]; exact nI_add (7 * n) 2
    subst hz31
    refine va_sld S.1 S.2.1 hXs hbl (Nat.not_le.mpr hbl) hMr.2.1 (vp_in_nI (n := 7 * n + 2) (by omega) (by omega)) dL_law_356 ?_
    refine lv_topi (fun z32 hz32 => ?_)
    have hz32 : z32 = (xs (7 * n + 2)) := by rw [hz32]; exact congrArg xs (cl_nI (by omega))
    subst hz32
    refine lv_aload_n hx hb dL_law_357 rfl (lv_at hl 3 rfl) ?_
    refine lv_iload_n hx hb dL_law_358 rfl (lv_at hl 0 rfl) ?_
    refine lv_iconst (v := 3) hx hb dL_law_359 (by decide) ?_
    refine lv_iadd hx hb dL_law_360 ?_
    refine lv_topi (fun z33 hz33 => ?_)
    have hz33 : z33 = (nI (7 * n + 3)) := by rw [hz33]; exact nI_add (7 * n) 3
    subst hz33
    refine va_sld S.1 S.2.1 hXs hbl (Nat.not_le.mpr hbl) hMr.2.1 (vp_in_nI (n := 7 * n + 3) (by omega) (by omega)) dL_law_361 ?_
    refine lv_topi (fun z34 hz34 => ?_)
    have hz34 : z34 = (xs (7 * n + 3)) := by rw [hz34]; exact congrArg xs (cl_nI (by omega))
    subst hz34
    refine lv_aload_n hx hb dL_law_362 rfl (lv_at hl 3 rfl) ?_
    refine lv_iload_n hx hb dL_law_363 rfl (lv_at hl 0 rfl) ?_
    refine lv_iconst (v := 4) hx hb dL_law_364 (by decide) ?_
    refine lv_iadd hx hb dL_law_365 ?_
    refine lv_topi (fun z35 hz35 => ?_)
    have hz35 : z35 = (nI (7 * n + 4)) := by rw [hz35]; exact nI_add (7 * n) 4
    subst hz35
    refine va_sld S.1 S.2.1 hXs hbl (Nat.not_le.mpr hbl) hMr.2.1 (vp_in_nI (n := 7 * n + 4) (by omega) (by omega)) dL_law_366 ?_
    refine lv_topi (fun z36 hz36 => ?_)
    have hz36 : z36 = (xs (7 * n + 4)) := by rw [hz36]; exact congrArg xs (cl_nI (by omega))
    subst hz36
    refine lv_i2l hx hb dL_law_367 rfl ?_
    refine lv_bipush (v := 32) hx hb dL_law_368 (by decide) ?_
    refine lv_lshl hx hb dL_law_370 rfl ?_
    refine lv_aload_n hx hb dL_law_371 rfl (lv_at hl 3 rfl) ?_
    refine lv_iload_n hx hb dL_law_372 rfl (lv_at hl 0 rfl) ?_
    refine lv_iconst (v := 5) hx hb dL_law_373 (by decide) ?_
    refine lv_iadd hx hb dL_law_374 ?_
    refine lv_topi (fun z37 hz37 => ?_)
    have hz37 : z37 = (nI (7 * n + 5)) := by rw [hz37]; exact nI_add (7 * n) 5
    subst hz37
    refine va_sld S.1 S.2.1 hXs hbl (Nat.not_le.mpr hbl) hMr.2.1 (vp_in_nI (n := 7 * n + 5) (by omega) (by omega)) dL_law_375 ?_
    refine lv_topi (fun z38 hz38 => ?_)
    have hz38 : z38 = (xs (7 * n + 5)) := by rw [hz38]; exact congrArg xs (cl_nI (by omega))
    subst hz38
    refine lv_i2l hx hb dL_law_376 rfl ?_
    refine lv_ldc2 hx hb hown (hts _ w_3_86) dL_law_377 ?_
    refine lv_land hx hb dL_law_380 ?_
    refine lv_lor hx hb dL_law_381 ?_
    refine mc_i hMr (rVm (rest := [.int r1]) S hK hMr cI5 (RS.c0 hR) rfl (c_X5_set l D cT hR hI (show n ≤ 512 by omega) 1 (xs (7 * n + 2)) (xs (7 * n + 3)) (((Int32.toInt64 (xs (7 * n + 4))) <<< (Int32.toInt64 32 &&& 63)) ||| ((Int32.toInt64 (xs (7 * n + 5))) &&& 4294967295)) H1.size) sm_X5_set w_2_187 w_2_185 ⟨Nat.le_of_ble_eq_true rfl, Nat.le_of_ble_eq_true rfl⟩ ⟨rfl, rfl⟩ rfl hl.1 rfl (Nat.le_of_ble_eq_true rfl) dL_law_382 ⟨by show 100 + 2 * n + 0 + 0 ≤ 600000; omega, by show 20000 + 16 * n + 0 + 0 ≤ 7302250; omega⟩) (fun r2 Mr1 H2 locs2 hp2 hMr2 hz2 hk2 hB2 => ?_)
    have hMx2 := hMx1.hp.other hd1.symm hk2
    have hd2 := (dis.next hMx1.hp hd1.symm hB2).symm
    obtain ⟨e1, ad1, had, hX1⟩ := hp1
    obtain ⟨e2, hR1⟩ := hp2
    refine lv_icmp_eq (tgt := 1080) hx hb dL_law_385 (by decide) (fun _ => ?_) (fun w => absurd (e1.trans e2.symm) w)
    exact nx ad1 Mx1 Mr1 H2 locs2 _ _ _ had hX1 hR1 (INV.set 1 (xs (7 * n + 2)) (xs (7 * n + 3)) (((Int32.toInt64 (xs (7 * n + 4))) <<< (Int32.toInt64 32 &&& 63)) ||| ((Int32.toInt64 (xs (7 * n + 5))) &&& 4294967295)) hI (show n < 512 by omega)) hMr2 hMx2 hd2 (by omega) (by omega) ls hl
set_option maxHeartbeats 4000000 in
set_option maxRecDepth 100000 in
theorem law_get (S : CallFix p m c code 4 s #[Value.ref b] lw_all RL) (hK : KK D cT s) (hXs : va_X b L xs s s.heap) (hbl : b < s.heap.size) (hL : L ≤ 3584) (h7 : 7 * n + 7 ≤ L) (hX : XS cT fu fd ad Mx z) (hR : RS cT a Mr z) (hI : INV n z) (hMx : HM D (A0 s) Mx s.heap H locs) (hMr : HP D (A0 s) Mr H) (hd : dis Mx Mr) (nx : ∀ (ad1 : Nat → Nat → Nat) (Mx1 Mr1 : hmp) (H1 : Heap) (locs1 : List Loc) (z1 : SG) (k1 k2 : Nat), ad1 0 0 = ad 0 0 → XS cT fu fd ad1 Mx1 z1 → RS cT a Mr1 z1 → INV (n + 1) z1 → HM D (A0 s) Mr1 s.heap H1 locs1 → HP D (A0 s) Mx1 H1 → dis Mx1 Mr1 → k1 ≤ 100 + 2 * (n + 1) → k2 ≤ 20000 + 16 * (n + 1) → ∀ ls, lv_has ls 4 [(3, .int (nI (7 * n))), (2, .ref (a 0)), (1, .ref (ad 0 0)), (0, .ref b)] → W p l e room_1 s m #[Value.ref b] below meth c H1 locs1 k1 k2 Q (F0 m 1080 ls [])) : ∀ ls, lv_has ls 4 [(3, .int (nI (7 * n))), (2, .ref (a 0)), (1, .ref (ad 0 0)), (0, .ref b)] → W p l e room_1 s m #[Value.ref b] below meth c H locs (100 + 2 * n) (20000 + 16 * n) Q (F0 m 390 ls []) := by
  intro ls hl
  have hx := S.1
  have hb := S.2.1
  have hml := S.2.2.1
  have hown := S.2.2.2.1
  have hts := S.2.2.2.2
  refine lv_aload_n hx hb dL_law_390 rfl (lv_at hl 2 rfl) ?_
  refine lv_aload_n hx hb dL_law_391 rfl (lv_at hl 3 rfl) ?_
  refine lv_iload_n hx hb dL_law_392 rfl (lv_at hl 0 rfl) ?_
  refine lv_iconst (v := 1) hx hb dL_law_393 (by decide) ?_
  refine lv_iadd hx hb dL_law_394 ?_
  refine lv_topi (fun z1 hz1 => ?_)
  have hz1 : z1 = (nI (7 * n + 1)) := by rw [hz1]; exact nI_add (7 * n) 1
  subst hz1
  refine va_sld S.1 S.2.1 hXs hbl (Nat.not_le.mpr hbl) hMx.2.1 (vp_in_nI (n := 7 * n + 1) (by omega) (by omega)) dL_law_395 ?_
  refine lv_topi (fun z2 hz2 => ?_)
  have hz2 : z2 = (xs (7 * n + 1)) := by rw [hz2]; exact congrArg xs (cl_nI (by omega))
  subst hz2
  refine lv_if_eq (tgt := 403) hx hb dL_law_396 (by decide) (fun cb => ?_) (fun cb => ?_)
  · skip
    refine lv_iconst (v := 0) hx hb dL_law_403 (by decide) ?_
    refine lv_aload_n hx hb dL_law_404 rfl (lv_at hl 3 rfl) ?_
    refine lv_iload_n hx hb dL_law_405 rfl (lv_at hl 0 rfl) ?_
    refine lv_iconst (v := 2) hx hb dL_law_406 (by decide) ?_
    refine lv_iadd hx hb dL_law_407 ?_
    refine lv_topi (fun z3 hz3 => ?_)
    have hz3 : z3 = (nI (7 * n + 2)) := by rw [hz3]; exact nI_add (7 * n) 2
    subst hz3
    refine va_sld S.1 S.2.1 hXs hbl (Nat.not_le.mpr hbl) hMx.2.1 (vp_in_nI (n := 7 * n + 2) (by omega) (by omega)) dL_law_408 ?_
    refine lv_topi (fun z4 hz4 => ?_)
    have hz4 : z4 = (xs (7 * n + 2)) := by rw [hz4]; exact congrArg xs (cl_nI (by omega))
    subst hz4
    refine lv_aload_n hx hb dL_law_409 rfl (lv_at hl 3 rfl) ?_
    refine lv_iload_n hx hb dL_law_410 rfl (lv_at hl 0 rfl) ?_
    refine lv_iconst (v := 3) hx hb dL_law_411 (by decide) ?_
    refine lv_iadd hx hb dL_law_412 ?_
    refine lv_topi (fun z5 hz5 => ?_)
    have hz5 : z5 = (nI (7 * n + 3)) := by rw [hz5]; exact nI_add (7 * n) 3
    subst hz5
    refine va_sld S.1 S.2.1 hXs hbl (Nat.not_le.mpr hbl) hMx.2.1 (vp_in_nI (n := 7 * n + 3) (by omega) (by omega)) dL_law_413 ?_
    refine lv_topi (fun z6 hz6 => ?_)
    have hz6 : z6 = (xs (7 * n + 3)) := by rw [hz6]; exact congrArg xs (cl_nI (by omega))
    subst hz6
    refine mc_i hMx (rVm (rest := []) S hK hMx cI4 (XS.c0 hX) rfl (c_X4_get l D cT hX hI (show n < 512 by omega) 0 (xs (7 * n + 2)) (xs (7 * n + 3)) H.size) sm_X4_get w_1_136 w_1_134 ⟨Nat.le_of_ble_eq_true rfl, Nat.le_of_ble_eq_true rfl⟩ ⟨rfl, rfl⟩ rfl hl.1 rfl (Nat.le_of_ble_eq_true rfl) dL_law_414 ⟨by show 100 + 2 * n + 0 ≤ 600000; omega, by show 20000 + 16 * n + 0 ≤ 7302250; omega⟩) (fun r1 Mx1 H1 locs1 hp1 hMx1 hz1 hk1 hB1 => ?_)
    have hMr1 := hMr.other hd hk1
    have hd1 := dis.next hMr hd hB1
    have hMr : HM D (A0 s) Mr s.heap H1 locs1 := ⟨hMx1.1, hMx1.2.1, hMr1⟩
    refine lv_aload_n hx hb dL_law_417 rfl (lv_at hl 1 rfl) ?_
    refine lv_aload_n hx hb dL_law_418 rfl (lv_at hl 3 rfl) ?_
    refine lv_iload_n hx hb dL_law_419 rfl (lv_at hl 0 rfl) ?_
    refine lv_iconst (v := 1) hx hb dL_law_420 (by decide) ?_
    refine lv_iadd hx hb dL_law_421 ?_
    refine lv_topi (fun z7 hz7 => ?_)
    have hz7 : z7 = (nI (7 * n + 1)) := by rw [hz7]; exact nI_add (7 * n) 1
    subst hz7
    refine va_sld S.1 S.2.1 hXs hbl (Nat.not_le.mpr hbl) hMr.2.1 (vp_in_nI (n := 7 * n + 1) (by omega) (by omega)) dL_law_422 ?_
    refine lv_topi (fun z8 hz8 => ?_)
    have hz8 : z8 = (xs (7 * n + 1)) := by rw [hz8]; exact congrArg xs (cl_nI (by omega))
    subst hz8
    refine lv_if_eq (tgt := 430) hx hb dL_law_423 (by decide) (fun _ => ?_) (fun w => absurd cb w)
    refine lv_iconst (v := 0) hx hb dL_law_430 (by decide) ?_
    refine lv_aload_n hx hb dL_law_431 rfl (lv_at hl 3 rfl) ?_
    refine lv_iload_n hx hb dL_law_432 rfl (lv_at hl 0 rfl) ?_
    refine lv_iconst (v := 2) hx hb dL_law_433 (by decide) ?_
    refine lv_iadd hx hb dL_law_434 ?_
    refine lv_topi (fun z9 hz9 => ?_)
    have hz9 : z9 = (nI (7 * n + 2)) := by rw [hz9]; exact nI_add (7 * n) 2
    subst hz9
    refine va_sld S.1 S.2.1 hXs hbl (Nat.not_le.mpr hbl) hMr.2.1 (vp_in_nI (n := 7 * n + 2) (by omega) (by omega)) dL_law_435 ?_
    refine lv_topi (fun z10 hz10 => ?_)
    have hz10 : z10 = (xs (7 * n + 2)) := by rw [hz10]; exact congrArg xs (cl_nI (by omega))
    subst hz10
    refine lv_aload_n hx hb dL_law_436 rfl (lv_at hl 3 rfl) ?_
    refine lv_iload_n hx hb dL_law_437 rfl (lv_at hl 0 rfl) ?_
    refine lv_iconst (v := 3) hx hb dL_law_438 (by decide) ?_
    refine lv_iadd hx hb dL_law_439 ?_
    refine lv_topi (fun z11 hz11 => ?_)
    have hz11 : z11 = (nI (7 * n + 3)) := by rw [hz11]; exact nI_add (7 * n) 3
    subst hz11
    refine va_sld S.1 S.2.1 hXs hbl (Nat.not_le.mpr hbl) hMr.2.1 (vp_in_nI (n := 7 * n + 3) (by omega) (by omega)) dL_law_440 ?_
    refine lv_topi (fun z12 hz12 => ?_)
    have hz12 : z12 = (xs (7 * n + 3)) := by rw [hz12]; exact congrArg xs (cl_nI (by omega))
    subst hz12
    refine mc_i hMr (rVm (rest := [.int r1]) S hK hMr cI5 (RS.c0 hR) rfl (c_X5_get l D cT hR hI (show n ≤ 512 by omega) 0 (xs (7 * n + 2)) (xs (7 * n + 3)) H1.size) sm_X5_get w_2_214 w_2_212 ⟨Nat.le_of_ble_eq_true rfl, Nat.le_of_ble_eq_true rfl⟩ ⟨rfl, rfl⟩ rfl hl.1 rfl (Nat.le_of_ble_eq_true rfl) dL_law_441 ⟨by show 100 + 2 * n + 0 + 0 ≤ 600000; omega, by show 20000 + 16 * n + 0 + 0 ≤ 7302250; omega⟩) (fun r2 Mr1 H2 locs2 hp2 hMr2 hz2 hk2 hB2 => ?_)
    have hMx2 := hMx1.hp.other hd1.symm hk2
    have hd2 := (dis.next hMx1.hp hd1.symm hB2).symm
    obtain ⟨e1, ad1, had, hX1⟩ := hp1
    obtain ⟨e2, hR1⟩ := hp2
    refine lv_icmp_eq (tgt := 1080) hx hb dL_law_444 (by decide) (fun _ => ?_) (fun w => absurd (e1.trans e2.symm) w)
    exact nx ad1 Mx1 Mr1 H2 locs2 _ _ _ had hX1 hR1 (INV.get 0 (xs (7 * n + 2)) (xs (7 * n + 3)) hI) hMr2 hMx2 hd2 (by omega) (by omega) ls hl
  · skip
    refine lv_iconst (v := 1) hx hb dL_law_399 (by decide) ?_
    refine lv_goto (tgt := 404) hx hb dL_law_400 (by decide) ?_
    refine lv_aload_n hx hb dL_law_404 rfl (lv_at hl 3 rfl) ?_
    refine lv_iload_n hx hb dL_law_405 rfl (lv_at hl 0 rfl) ?_
    refine lv_iconst (v := 2) hx hb dL_law_406 (by decide) ?_
    refine lv_iadd hx hb dL_law_407 ?_
    refine lv_topi (fun z13 hz13 => ?_)
    have hz13 : z13 = (nI (7 * n + 2)) := by rw [hz13]; exact nI_add (7 * n) 2
    subst hz13
    refine va_sld S.1 S.2.1 hXs hbl (Nat.not_le.mpr hbl) hMx.2.1 (vp_in_nI (n := 7 * n + 2) (by omega) (by omega)) dL_law_408 ?_
    refine lv_topi (fun z14 hz14 => ?_)
    have hz14 : z14 = (xs (7 * n + 2)) := by rw [hz14]; exact congrArg xs (cl_nI (by omega))
    subst hz14
    refine lv_aload_n hx hb dL_law_409 rfl (lv_at hl 3 rfl) ?_
    refine lv_iload_n hx hb dL_law_410 rfl (lv_at hl 0 rfl) ?_
    refine lv_iconst (v := 3) hx hb dL_law_411 (by decide) ?_
    refine lv_iadd hx hb dL_law_412 ?_
    refine lv_topi (fun z15 hz15 => ?_)
    have hz15 : z15 = (nI (7 * n + 3)) := by rw [hz15]; exact nI_add (7 * n) 3
    subst hz15
    refine va_sld S.1 S.2.1 hXs hbl (Nat.not_le.mpr hbl) hMx.2.1 (vp_in_nI (n := 7 * n + 3) (by omega) (by omega)) dL_law_413 ?_
    refine lv_topi (fun z16 hz16 => ?_)
    have hz16 : z16 = (xs (7 * n + 3)) := by rw [hz16]; exact congrArg xs (cl_nI (by omega))
    subst hz16
    refine mc_i hMx (rVm (rest := []) S hK hMx cI4 (XS.c0 hX) rfl (c_X4_get l D cT hX hI (show n < 512 by omega) 1 (xs (7 * n + 2)) (xs (7 * n + 3)) H.size) sm_X4_get w_1_136 w_1_134 ⟨Nat.le_of_ble_eq_true rfl, Nat.le_of_ble_eq_true rfl⟩ ⟨rfl, rfl⟩ rfl hl.1 rfl (Nat.le_of_ble_eq_true rfl) dL_law_414 ⟨by show 100 + 2 * n + 0 ≤ 600000; omega, by show 20000 + 16 * n + 0 ≤ 7302250; omega⟩) (fun r1 Mx1 H1 locs1 hp1 hMx1 hz1 hk1 hB1 => ?_)
    have hMr1 := hMr.other hd hk1
    have hd1 := dis.next hMr hd hB1
    have hMr : HM D (A0 s) Mr s.heap H1 locs1 := ⟨hMx1.1, hMx1.2.1, hMr1⟩
    refine lv_aload_n hx hb dL_law_417 rfl (lv_at hl 1 rfl) ?_
    refine lv_aload_n hx hb dL_law_418 rfl (lv_at hl 3 rfl) ?_
    refine lv_iload_n hx hb dL_law_419 rfl (lv_at hl 0 rfl) ?_
    refine lv_iconst (v := 1) hx hb dL_law_420 (by decide) ?_
    refine lv_iadd hx hb dL_law_421 ?_
    refine lv_topi (fun z17 hz17 => ?_)
    have hz17 : z17 = (nI (7 * n + 1)) := by rw [hz17]; exact nI_add (7 * n) 1
    subst hz17
    refine va_sld S.1 S.2.1 hXs hbl (Nat.not_le.mpr hbl) hMr.2.1 (vp_in_nI (n := 7 * n + 1) (by omega) (by omega)) dL_law_422 ?_
    refine lv_topi (fun z18 hz18 => ?_)
    have hz18 : z18 = (xs (7 * n + 1)) := by rw [hz18]; exact congrArg xs (cl_nI (by omega))
    subst hz18
    refine lv_if_eq (tgt := 430) hx hb dL_law_423 (by decide) (fun w => absurd w cb) (fun _ => ?_)
    refine lv_iconst (v := 1) hx hb dL_law_426 (by decide) ?_
    refine lv_goto (tgt := 431) hx hb dL_law_427 (by decide) ?_
    refine lv_aload_n hx hb dL_law_431 rfl (lv_at hl 3 rfl) ?_
    refine lv_iload_n hx hb dL_law_432 rfl (lv_at hl 0 rfl) ?_
    refine lv_iconst (v := 2) hx hb dL_law_433 (by decide) ?_
    refine lv_iadd hx hb dL_law_434 ?_
    refine lv_topi (fun z19 hz19 => ?_)
    have hz19 : z19 = (nI (7 * n + 2)) := by rw [hz19]; exact nI_add (7 * n) 2
    subst hz19
    refine va_sld S.1 S.2.1 hXs hbl (Nat.not_le.mpr hbl) hMr.2.1 (vp_in_nI (n := 7 * n + 2) (by omega) (by omega)) dL_law_435 ?_
    refine lv_topi (fun z20 hz20 => ?_)
    have hz20 : z20 = (xs (7 * n + 2)) := by rw [hz20]; exact congrArg xs (cl_nI (by omega))
    subst hz20
    refine lv_aload_n hx hb dL_law_436 rfl (lv_at hl 3 rfl) ?_
    refine lv_iload_n hx hb dL_law_437 rfl (lv_at hl 0 rfl) ?_
    refine lv_iconst (v := 3) hx hb dL_law_438 (by decide) ?_
    refine lv_iadd hx hb dL_law_439 ?_
    refine lv_topi (fun z21 hz21 => ?_)
    have hz21 : z21 = (nI (7 * n + 3)) := by rw [hz21]; exact nI_add (7 * n) 3
    subst hz21
    refine va_sld S.1 S.2.1 hXs hbl (Nat.not_le.mpr hbl) hMr.2.1 (vp_in_nI (n := 7 * n + 3) (by omega) (by omega)) dL_law_440 ?_
    refine lv_topi (fun z22 hz22 => ?_)
    have hz22 : z22 = (xs (7 * n + 3)) := by rw [hz22]; exact congrArg xs (cl_nI (by omega))
    subst hz22
    refine mc_i hMr (rVm (rest := [.int r1]) S hK hMr cI5 (RS.c0 hR) rfl (c_X5_get l D cT hR hI (show n ≤ 512 by omega) 1 (xs (7 * n + 2)) (xs (7 * n + 3)) H1.size) sm_X5_get w_2_214 w_2_212 ⟨Nat.le_of_ble_eq_true rfl, Nat.le_of_ble_eq_true rfl⟩ ⟨rfl, rfl⟩ rfl hl.1 rfl (Nat.le_of_ble_eq_true rfl) dL_law_441 ⟨by show 100 + 2 * n + 0 + 0 ≤ 600000; omega, by show 20000 + 16 * n + 0 + 0 ≤ 7302250; omega⟩) (fun r2 Mr1 H2 locs2 hp2 hMr2 hz2 hk2 hB2 => ?_)
    have hMx2 := hMx1.hp.other hd1.symm hk2
    have hd2 := (dis.next hMx1.hp hd1.symm hB2).symm
    obtain ⟨e1, ad1, had, hX1⟩ := hp1
    obtain ⟨e2, hR1⟩ := hp2
    refine lv_icmp_eq (tgt := 1080) hx hb dL_law_444 (by decide) (fun _ => ?_) (fun w => absurd (e1.trans e2.symm) w)
    exact nx ad1 Mx1 Mr1 H2 locs2 _ _ _ had hX1 hR1 (INV.get 1 (xs (7 * n + 2)) (xs (7 * n + 3)) hI) hMr2 hMx2 hd2 (by omega) (by omega) ls hl
set_option maxHeartbeats 4000000 in
set_option maxRecDepth 100000 in
theorem law_wrap (S : CallFix p m c code 4 s #[Value.ref b] lw_all RL) (hK : KK D cT s) (hXs : va_X b L xs s s.heap) (hbl : b < s.heap.size) (hL : L ≤ 3584) (h7 : 7 * n + 7 ≤ L) (hX : XS cT fu fd ad Mx z) (hR : RS cT a Mr z) (hI : INV n z) (hMx : HM D (A0 s) Mx s.heap H locs) (hMr : HP D (A0 s) Mr H) (hd : dis Mx Mr) (nx : ∀ (ad1 : Nat → Nat → Nat) (Mx1 Mr1 : hmp) (H1 : Heap) (locs1 : List Loc) (z1 : SG) (k1 k2 : Nat), ad1 0 0 = ad 0 0 → XS cT fu fd ad1 Mx1 z1 → RS cT a Mr1 z1 → INV (n + 1) z1 → HM D (A0 s) Mr1 s.heap H1 locs1 → HP D (A0 s) Mx1 H1 → dis Mx1 Mr1 → k1 ≤ 100 + 2 * (n + 1) → k2 ≤ 20000 + 16 * (n + 1) → ∀ ls, lv_has ls 4 [(3, .int (nI (7 * n))), (2, .ref (a 0)), (1, .ref (ad 0 0)), (0, .ref b)] → W p l e room_1 s m #[Value.ref b] below meth c H1 locs1 k1 k2 Q (F0 m 1080 ls [])) : ∀ ls, lv_has ls 4 [(3, .int (nI (7 * n))), (2, .ref (a 0)), (1, .ref (ad 0 0)), (0, .ref b)] → W p l e room_1 s m #[Value.ref b] below meth c H locs (100 + 2 * n) (20000 + 16 * n) Q (F0 m 449 ls []) := by
  intro ls hl
  have hx := S.1
  have hb := S.2.1
  have hml := S.2.2.1
  have hown := S.2.2.2.1
  have hts := S.2.2.2.2
  refine lv_aload_n hx hb dL_law_449 rfl (lv_at hl 2 rfl) ?_
  refine lv_aload_n hx hb dL_law_450 rfl (lv_at hl 3 rfl) ?_
  refine lv_iload_n hx hb dL_law_451 rfl (lv_at hl 0 rfl) ?_
  refine lv_iconst (v := 1) hx hb dL_law_452 (by decide) ?_
  refine lv_iadd hx hb dL_law_453 ?_
  refine lv_topi (fun z1 hz1 => ?_)
  have hz1 : z1 = (nI (7 * n + 1)) := by rw [hz1]; exact nI_add (7 * n) 1
  subst hz1
  refine va_sld S.1 S.2.1 hXs hbl (Nat.not_le.mpr hbl) hMx.2.1 (vp_in_nI (n := 7 * n + 1) (by omega) (by omega)) dL_law_454 ?_
  refine lv_topi (fun z2 hz2 => ?_)
  have hz2 : z2 = (xs (7 * n + 1)) := by rw [hz2]; exact congrArg xs (cl_nI (by omega))
  subst hz2
  refine lv_if_eq (tgt := 462) hx hb dL_law_455 (by decide) (fun cb => ?_) (fun cb => ?_)
  · skip
    refine lv_iconst (v := 0) hx hb dL_law_462 (by decide) ?_
    refine lv_aload_n hx hb dL_law_463 rfl (lv_at hl 3 rfl) ?_
    refine lv_iload_n hx hb dL_law_464 rfl (lv_at hl 0 rfl) ?_
    refine lv_iconst (v := 2) hx hb dL_law_465 (by decide) ?_
    refine lv_iadd hx hb dL_law_466 ?_
    refine lv_topi (fun z3 hz3 => ?_)
    have hz3 : z3 = (nI (7 * n + 2)) := by rw [hz3]; exact nI_add (7 * n) 2
    subst hz3
    refine va_sld S.1 S.2.1 hXs hbl (Nat.not_le.mpr hbl) hMx.2.1 (vp_in_nI (n := 7 * n + 2) (by omega) (by omega)) dL_law_467 ?_
    refine lv_topi (fun z4 hz4 => ?_)
    have hz4 : z4 = (xs (7 * n + 2)) := by rw [hz4]; exact congrArg xs (cl_nI (by omega))
    subst hz4
    refine lv_aload_n hx hb dL_law_468 rfl (lv_at hl 3 rfl) ?_
    refine lv_iload_n hx hb dL_law_469 rfl (lv_at hl 0 rfl) ?_
    refine lv_iconst (v := 3) hx hb dL_law_470 (by decide) ?_
    refine lv_iadd hx hb dL_law_471 ?_
    refine lv_topi (fun z5 hz5 => ?_)
    have hz5 : z5 = (nI (7 * n + 3)) := by rw [hz5]; exact nI_add (7 * n) 3
    subst hz5
    refine va_sld S.1 S.2.1 hXs hbl (Nat.not_le.mpr hbl) hMx.2.1 (vp_in_nI (n := 7 * n + 3) (by omega) (by omega)) dL_law_472 ?_
    refine lv_topi (fun z6 hz6 => ?_)
    have hz6 : z6 = (xs (7 * n + 3)) := by rw [hz6]; exact congrArg xs (cl_nI (by omega))
    subst hz6
    refine lv_aload_n hx hb dL_law_473 rfl (lv_at hl 3 rfl) ?_
    refine lv_iload_n hx hb dL_law_474 rfl (lv_at hl 0 rfl) ?_
    refine lv_iconst (v := 4) hx hb dL_law_475 (by decide) ?_
    refine lv_iadd hx hb dL_law_476 ?_
    refine lv_topi (fun z7 hz7 => ?_)
    have hz7 : z7 = (nI (7 * n + 4)) := by rw [hz7]; exact nI_add (7 * n) 4
    subst hz7
    refine va_sld S.1 S.2.1 hXs hbl (Nat.not_le.mpr hbl) hMx.2.1 (vp_in_nI (n := 7 * n + 4) (by omega) (by omega)) dL_law_477 ?_
    refine lv_topi (fun z8 hz8 => ?_)
    have hz8 : z8 = (xs (7 * n + 4)) := by rw [hz8]; exact congrArg xs (cl_nI (by omega))
    subst hz8
    refine mc_i hMx (rVm (rest := []) S hK hMx cI4 (XS.c0 hX) rfl (c_X4_wrap l D cT hX hI (show n < 512 by omega) 0 (xs (7 * n + 2)) (xs (7 * n + 3)) (xs (7 * n + 4)) H.size) sm_X4_wrap w_1_162 w_1_160 ⟨Nat.le_of_ble_eq_true rfl, Nat.le_of_ble_eq_true rfl⟩ ⟨rfl, rfl⟩ rfl hl.1 rfl (Nat.le_of_ble_eq_true rfl) dL_law_478 ⟨by show 100 + 2 * n + 0 ≤ 600000; omega, by show 20000 + 16 * n + 0 ≤ 7302250; omega⟩) (fun r1 Mx1 H1 locs1 hp1 hMx1 hz1 hk1 hB1 => ?_)
    have hMr1 := hMr.other hd hk1
    have hd1 := dis.next hMr hd hB1
    have hMr : HM D (A0 s) Mr s.heap H1 locs1 := ⟨hMx1.1, hMx1.2.1, hMr1⟩
    refine lv_aload_n hx hb dL_law_481 rfl (lv_at hl 1 rfl) ?_
    refine lv_aload_n hx hb dL_law_482 rfl (lv_at hl 3 rfl) ?_
    refine lv_iload_n hx hb dL_law_483 rfl (lv_at hl 0 rfl) ?_
    refine lv_iconst (v := 1) hx hb dL_law_484 (by decide) ?_
    refine lv_iadd hx hb dL_law_485 ?_
    refine lv_topi (fun z9 hz9 => ?_)
    have hz9 : z9 = (nI (7 * n + 1)) := by rw [hz9]; exact nI_add (7 * n) 1
    subst hz9
    refine va_sld S.1 S.2.1 hXs hbl (Nat.not_le.mpr hbl) hMr.2.1 (vp_in_nI (n := 7 * n + 1) (by omega) (by omega)) dL_law_486 ?_
    refine lv_topi (fun z10 hz10 => ?_)
    have hz10 : z10 = (xs (7 * n + 1)) := by rw [hz10]; exact congrArg xs (cl_nI (by omega))
    subst hz10
    refine lv_if_eq (tgt := 494) hx hb dL_law_487 (by decide) (fun _ => ?_) (fun w => absurd cb w)
    refine lv_iconst (v := 0) hx hb dL_law_494 (by decide) ?_
    refine lv_aload_n hx hb dL_law_495 rfl (lv_at hl 3 rfl) ?_
    refine lv_iload_n hx hb dL_law_496 rfl (lv_at hl 0 rfl) ?_
    refine lv_iconst (v := 2) hx hb dL_law_497 (by decide) ?_
    refine lv_iadd hx hb dL_law_498 ?_
    refine lv_topi (fun z11 hz11 => ?_)
    have hz11 : z11 = (nI (7 * n + 2)) := by rw [hz11]; exact nI_add (7 * n) 2
    subst hz11
    refine va_sld S.1 S.2.1 hXs hbl (Nat.not_le.mpr hbl) hMr.2.1 (vp_in_nI (n := 7 * n + 2) (by omega) (by omega)) dL_law_499 ?_
    refine lv_topi (fun z12 hz12 => ?_)
    have hz12 : z12 = (xs (7 * n + 2)) := by rw [hz12]; exact congrArg xs (cl_nI (by omega))
    subst hz12
    refine lv_aload_n hx hb dL_law_500 rfl (lv_at hl 3 rfl) ?_
    refine lv_iload_n hx hb dL_law_501 rfl (lv_at hl 0 rfl) ?_
    refine lv_iconst (v := 3) hx hb dL_law_502 (by decide) ?_
    refine lv_iadd hx hb dL_law_503 ?_
    refine lv_topi (fun z13 hz13 => ?_)
    have hz13 : z13 = (nI (7 * n + 3)) := by rw [hz13]; exact nI_add (7 * n) 3
    subst hz13
    refine va_sld S.1 S.2.1 hXs hbl (Nat.not_le.mpr hbl) hMr.2.1 (vp_in_nI (n := 7 * n + 3) (by omega) (by omega)) dL_law_504 ?_
    refine lv_topi (fun z14 hz14 => ?_)
    have hz14 : z14 = (xs (7 * n + 3)) := by rw [hz14]; exact congrArg xs (cl_nI (by omega))
    subst hz14
    refine lv_aload_n hx hb dL_law_505 rfl (lv_at hl 3 rfl) ?_
    refine lv_iload_n hx hb dL_law_506 rfl (lv_at hl 0 rfl) ?_
    refine lv_iconst (v := 4) hx hb dL_law_507 (by decide) ?_
    refine lv_iadd hx hb dL_law_508 ?_
    refine lv_topi (fun z15 hz15 => ?_)
    have hz15 : z15 = (nI (7 * n + 4)) := by rw [hz15]; exact nI_add (7 * n) 4
    subst hz15
    refine va_sld S.1 S.2.1 hXs hbl (Nat.not_le.mpr hbl) hMr.2.1 (vp_in_nI (n := 7 * n + 4) (by omega) (by omega)) dL_law_509 ?_
    refine lv_topi (fun z16 hz16 => ?_)
    have hz16 : z16 = (xs (7 * n + 4)) := by rw [hz16]; exact congrArg xs (cl_nI (by omega))
    subst hz16
    refine mc_i hMr (rVm (rest := [.int r1]) S hK hMr cI5 (RS.c0 hR) rfl (c_X5_wrap l D cT hR hI (show n ≤ 512 by omega) 0 (xs (7 * n + 2)) (xs (7 * n + 3)) (xs (7 * n + 4)) H1.size) sm_X5_wrap w_3_5 w_3_3 ⟨Nat.le_of_ble_eq_true rfl, Nat.le_of_ble_eq_true rfl⟩ ⟨rfl, rfl⟩ rfl hl.1 rfl (Nat.le_of_ble_eq_true rfl) dL_law_510 ⟨by show 100 + 2 * n + 0 + 0 ≤ 600000; omega, by show 20000 + 16 * n + 0 + 0 ≤ 7302250; omega⟩) (fun r2 Mr1 H2 locs2 hp2 hMr2 hz2 hk2 hB2 => ?_)
    have hMx2 := hMx1.hp.other hd1.symm hk2
    have hd2 := (dis.next hMx1.hp hd1.symm hB2).symm
    obtain ⟨e1, ad1, had, hX1⟩ := hp1
    obtain ⟨e2, hR1⟩ := hp2
    refine lv_icmp_eq (tgt := 1080) hx hb dL_law_513 (by decide) (fun _ => ?_) (fun w => absurd (e1.trans e2.symm) w)
    exact nx ad1 Mx1 Mr1 H2 locs2 _ _ _ had hX1 hR1 (INV.wrap 0 (xs (7 * n + 2)) (xs (7 * n + 3)) (xs (7 * n + 4)) hI (show n < 512 by omega)) hMr2 hMx2 hd2 (by omega) (by omega) ls hl
  · skip
    refine lv_iconst (v := 1) hx hb dL_law_458 (by decide) ?_
    refine lv_goto (tgt := 463) hx hb dL_law_459 (by decide) ?_
    refine lv_aload_n hx hb dL_law_463 rfl (lv_at hl 3 rfl) ?_
    refine lv_iload_n hx hb dL_law_464 rfl (lv_at hl 0 rfl) ?_
    refine lv_iconst (v := 2) hx hb dL_law_465 (by decide) ?_
    refine lv_iadd hx hb dL_law_466 ?_
    refine lv_topi (fun z17 hz17 => ?_)
    have hz17 : z17 = (nI (7 * n + 2)) := by rw [hz17]; exact nI_add (7 * n) 2
    subst hz17
    refine va_sld S.1 S.2.1 hXs hbl (Nat.not_le.mpr hbl) hMx.2.1 (vp_in_nI (n := 7 * n + 2) (by omega) (by omega)) dL_law_467 ?_
    refine lv_topi (fun z18 hz18 => ?_)
    have hz18 : z18 = (xs (7 * n + 2)) := by rw [hz18]; exact congrArg xs (cl_nI (by omega))
    subst hz18
    refine lv_aload_n hx hb dL_law_468 rfl (lv_at hl 3 rfl) ?_
    refine lv_iload_n hx hb dL_law_469 rfl (lv_at hl 0 rfl) ?_
    refine lv_iconst (v := 3) hx hb dL_law_470 (by decide) ?_
    refine lv_iadd hx hb dL_law_471 ?_
    refine lv_topi (fun z19 hz19 => ?_)
    have hz19 : z19 = (nI (7 * n + 3)) := by rw [hz19]; exact nI_add (7 * n) 3
    subst hz19
    refine va_sld S.1 S.2.1 hXs hbl (Nat.not_le.mpr hbl) hMx.2.1 (vp_in_nI (n := 7 * n + 3) (by omega) (by omega)) dL_law_472 ?_
    refine lv_topi (fun z20 hz20 => ?_)
    have hz20 : z20 = (xs (7 * n + 3)) := by rw [hz20]; exact congrArg xs (cl_nI (by omega))
    subst hz20
    refine lv_aload_n hx hb dL_law_473 rfl (lv_at hl 3 rfl) ?_
    refine lv_iload_n hx hb dL_law_474 rfl (lv_at hl 0 rfl) ?_
    refine lv_iconst (v := 4) hx hb dL_law_475 (by decide) ?_
    refine lv_iadd hx hb dL_law_476 ?_
    refine lv_topi (fun z21 hz21 => ?_)
    have hz21 : z21 = (nI (7 * n + 4)) := by rw [hz21]; exact nI_add (7 * n) 4
    subst hz21
    refine va_sld S.1 S.2.1 hXs hbl (Nat.not_le.mpr hbl) hMx.2.1 (vp_in_nI (n := 7 * n + 4) (by omega) (by omega)) dL_law_477 ?_
    refine lv_topi (fun z22 hz22 => ?_)
    have hz22 : z22 = (xs (7 * n + 4)) := by rw [hz22]; exact congrArg xs (cl_nI (by omega))
    subst hz22
    refine mc_i hMx (rVm (rest := []) S hK hMx cI4 (XS.c0 hX) rfl (c_X4_wrap l D cT hX hI (show n < 512 by omega) 1 (xs (7 * n + 2)) (xs (7 * n + 3)) (xs (7 * n + 4)) H.size) sm_X4_wrap w_1_162 w_1_160 ⟨Nat.le_of_ble_eq_true rfl, Nat.le_of_ble_eq_true rfl⟩ ⟨rfl, rfl⟩ rfl hl.1 rfl (Nat.le_of_ble_eq_true rfl) dL_law_478 ⟨by show 100 + 2 * n + 0 ≤ 600000; omega, by show 20000 + 16 * n + 0 ≤ 7302250; omega⟩) (fun r1 Mx1 H1 locs1 hp1 hMx1 hz1 hk1 hB1 => ?_)
    have hMr1 := hMr.other hd hk1
    have hd1 := dis.next hMr hd hB1
    have hMr : HM D (A0 s) Mr s.heap H1 locs1 := ⟨hMx1.1, hMx1.2.1, hMr1⟩
    refine lv_aload_n hx hb dL_law_481 rfl (lv_at hl 1 rfl) ?_
    refine lv_aload_n hx hb dL_law_482 rfl (lv_at hl 3 rfl) ?_
    refine lv_iload_n hx hb dL_law_483 rfl (lv_at hl 0 rfl) ?_
    refine lv_iconst (v := 1) hx hb dL_law_484 (by decide) ?_
    refine lv_iadd hx hb dL_law_485 ?_
    refine lv_topi (fun z23 hz23 => ?_)
    have hz23 : z23 = (nI (7 * n + 1)) := by rw [hz23]; exact nI_add (7 * n) 1
    subst hz23
    refine va_sld S.1 S.2.1 hXs hbl (Nat.not_le.mpr hbl) hMr.2.1 (vp_in_nI (n := 7 * n + 1) (by omega) (by omega)) dL_law_486 ?_
    refine lv_topi (fun z24 hz24 => ?_)
    have hz24 : z24 = (xs (7 * n + 1)) := by rw [hz24]; exact congrArg xs (cl_nI (by omega))
    subst hz24
    refine lv_if_eq (tgt := 494) hx hb dL_law_487 (by decide) (fun w => absurd w cb) (fun _ => ?_)
    refine lv_iconst (v := 1) hx hb dL_law_490 (by decide) ?_
    refine lv_goto (tgt := 495) hx hb dL_law_491 (by decide) ?_
    refine lv_aload_n hx hb dL_law_495 rfl (lv_at hl 3 rfl) ?_
    refine lv_iload_n hx hb dL_law_496 rfl (lv_at hl 0 rfl) ?_
    refine lv_iconst (v := 2) hx hb dL_law_497 (by decide) ?_
    refine lv_iadd hx hb dL_law_498 ?_
    refine lv_topi (fun z25 hz25 => ?_)
    have hz25 : z25 = (nI (7 * n + 2)) := by rw [hz25]; exact nI_add (7 * n) 2
    subst hz25
    refine va_sld S.1 S.2.1 hXs hbl (Nat.not_le.mpr hbl) hMr.2.1 (vp_in_nI (n := 7 * n + 2) (by omega) (by omega)) dL_law_499 ?_
    refine lv_topi (fun z26 hz26 => ?_)
    have hz26 : z26 = (xs (7 * n + 2)) := by rw [hz26]; exact congrArg xs (cl_nI (by omega))
    subst hz26
    refine lv_aload_n hx hb dL_law_500 rfl (lv_at hl 3 rfl) ?_
    refine lv_iload_n hx hb dL_law_501 rfl (lv_at hl 0 rfl) ?_
    refine lv_iconst (v := 3) hx hb dL_law_502 (by decide) ?_
    refine lv_iadd hx hb dL_law_503 ?_
    refine lv_topi (fun z27 hz27 => ?_)
    have hz27 : z27 = (nI (7 * n + 3)) := by rw [hz27]; exact nI_add (7 * n) 3
    subst hz27
    refine va_sld S.1 S.2.1 hXs hbl (Nat.not_le.mpr hbl) hMr.2.1 (vp_in_nI (n := 7 * n + 3) (by omega) (by omega)) dL_law_504 ?_
    refine lv_topi (fun z28 hz28 => ?_)
    have hz28 : z28 = (xs (7 * n + 3)) := by rw [hz28]; exact congrArg xs (cl_nI (by omega))
    subst hz28
    refine lv_aload_n hx hb dL_law_505 rfl (lv_at hl 3 rfl) ?_
    refine lv_iload_n hx hb dL_law_506 rfl (lv_at hl 0 rfl) ?_
    refine lv_iconst (v := 4) hx hb dL_law_507 (by decide) ?_
    refine lv_iadd hx hb dL_law_508 ?_
    refine lv_topi (fun z29 hz29 => ?_)
    have hz29 : z29 = (nI (7 * n + 4)) := by rw [hz29]; exact nI_add (7 * n) 4
    subst hz29
    refine va_sld S.1 S.2.1 hXs hbl (Nat.not_le.mpr hbl) hMr.2.1 (vp_in_nI (n := 7 * n + 4) (by omega) (by omega)) dL_law_509 ?_
    refine lv_topi (fun z30 hz30 => ?_)
    have hz30 : z30 = (xs (7 * n + 4)) := by rw [hz30]; exact congrArg xs (cl_nI (by omega))
    subst hz30
    refine mc_i hMr (rVm (rest := [.int r1]) S hK hMr cI5 (RS.c0 hR) rfl (c_X5_wrap l D cT hR hI (show n ≤ 512 by omega) 1 (xs (7 * n + 2)) (xs (7 * n + 3)) (xs (7 * n + 4)) H1.size) sm_X5_wrap w_3_5 w_3_3 ⟨Nat.le_of_ble_eq_true rfl, Nat.le_of_ble_eq_true rfl⟩ ⟨rfl, rfl⟩ rfl hl.1 rfl (Nat.le_of_ble_eq_true rfl) dL_law_510 ⟨by show 100 + 2 * n + 0 + 0 ≤ 600000; omega, by show 20000 + 16 * n + 0 + 0 ≤ 7302250; omega⟩) (fun r2 Mr1 H2 locs2 hp2 hMr2 hz2 hk2 hB2 => ?_)
    have hMx2 := hMx1.hp.other hd1.symm hk2
    have hd2 := (dis.next hMx1.hp hd1.symm hB2).symm
    obtain ⟨e1, ad1, had, hX1⟩ := hp1
    obtain ⟨e2, hR1⟩ := hp2
    refine lv_icmp_eq (tgt := 1080) hx hb dL_law_513 (by decide) (fun _ => ?_) (fun w => absurd (e1.trans e2.symm) w)
    exact nx ad1 Mx1 Mr1 H2 locs2 _ _ _ had hX1 hR1 (INV.wrap 1 (xs (7 * n + 2)) (xs (7 * n + 3)) (xs (7 * n + 4)) hI (show n < 512 by omega)) hMr2 hMx2 hd2 (by omega) (by omega) ls hl
set_option maxHeartbeats 4000000 in
set_option maxRecDepth 100000 in
theorem law_effect (S : CallFix p m c code 4 s #[Value.ref b] lw_all RL) (hK : KK D cT s) (hXs : va_X b L xs s s.heap) (hbl : b < s.heap.size) (hL : L ≤ 3584) (h7 : 7 * n + 7 ≤ L) (hX : XS cT fu fd ad Mx z) (hR : RS cT a Mr z) (hI : INV n z) (hMx : HM D (A0 s) Mx s.heap H locs) (hMr : HP D (A0 s) Mr H) (hd : dis Mx Mr) (nx : ∀ (ad1 : Nat → Nat → Nat) (Mx1 Mr1 : hmp) (H1 : Heap) (locs1 : List Loc) (z1 : SG) (k1 k2 : Nat), ad1 0 0 = ad 0 0 → XS cT fu fd ad1 Mx1 z1 → RS cT a Mr1 z1 → INV (n + 1) z1 → HM D (A0 s) Mr1 s.heap H1 locs1 → HP D (A0 s) Mx1 H1 → dis Mx1 Mr1 → k1 ≤ 100 + 2 * (n + 1) → k2 ≤ 20000 + 16 * (n + 1) → ∀ ls, lv_has ls 4 [(3, .int (nI (7 * n))), (2, .ref (a 0)), (1, .ref (ad 0 0)), (0, .ref b)] → W p l e room_1 s m #[Value.ref b] below meth c H1 locs1 k1 k2 Q (F0 m 1080 ls [])) : ∀ ls, lv_has ls 4 [(3, .int (nI (7 * n))), (2, .ref (a 0)), (1, .ref (ad 0 0)), (0, .ref b)] → W p l e room_1 s m #[Value.ref b] below meth c H locs (100 + 2 * n) (20000 + 16 * n) Q (F0 m 518 ls []) := by
  intro ls hl
  have hx := S.1
  have hb := S.2.1
  have hml := S.2.2.1
  have hown := S.2.2.2.1
  have hts := S.2.2.2.2
  refine lv_aload_n hx hb dL_law_518 rfl (lv_at hl 2 rfl) ?_
  refine lv_aload_n hx hb dL_law_519 rfl (lv_at hl 3 rfl) ?_
  refine lv_iload_n hx hb dL_law_520 rfl (lv_at hl 0 rfl) ?_
  refine lv_iconst (v := 1) hx hb dL_law_521 (by decide) ?_
  refine lv_iadd hx hb dL_law_522 ?_
  refine lv_topi (fun z1 hz1 => ?_)
  have hz1 : z1 = (nI (7 * n + 1)) := by rw [hz1]; exact nI_add (7 * n) 1
  subst hz1
  refine va_sld S.1 S.2.1 hXs hbl (Nat.not_le.mpr hbl) hMx.2.1 (vp_in_nI (n := 7 * n + 1) (by omega) (by omega)) dL_law_523 ?_
  refine lv_topi (fun z2 hz2 => ?_)
  have hz2 : z2 = (xs (7 * n + 1)) := by rw [hz2]; exact congrArg xs (cl_nI (by omega))
  subst hz2
  refine lv_aload_n hx hb dL_law_524 rfl (lv_at hl 3 rfl) ?_
  refine lv_iload_n hx hb dL_law_525 rfl (lv_at hl 0 rfl) ?_
  refine lv_iconst (v := 2) hx hb dL_law_526 (by decide) ?_
  refine lv_iadd hx hb dL_law_527 ?_
  refine lv_topi (fun z3 hz3 => ?_)
  have hz3 : z3 = (nI (7 * n + 2)) := by rw [hz3]; exact nI_add (7 * n) 2
  subst hz3
  refine va_sld S.1 S.2.1 hXs hbl (Nat.not_le.mpr hbl) hMx.2.1 (vp_in_nI (n := 7 * n + 2) (by omega) (by omega)) dL_law_528 ?_
  refine lv_topi (fun z4 hz4 => ?_)
  have hz4 : z4 = (xs (7 * n + 2)) := by rw [hz4]; exact congrArg xs (cl_nI (by omega))
  subst hz4
  refine lv_aload_n hx hb dL_law_529 rfl (lv_at hl 3 rfl) ?_
  refine lv_iload_n hx hb dL_law_530 rfl (lv_at hl 0 rfl) ?_
  refine lv_iconst (v := 3) hx hb dL_law_531 (by decide) ?_
  refine lv_iadd hx hb dL_law_532 ?_
  refine lv_topi (fun z5 hz5 => ?_)
  have hz5 : z5 = (nI (7 * n + 3)) := by rw [hz5]; exact nI_add (7 * n) 3
  subst hz5
  refine va_sld S.1 S.2.1 hXs hbl (Nat.not_le.mpr hbl) hMx.2.1 (vp_in_nI (n := 7 * n + 3) (by omega) (by omega)) dL_law_533 ?_
  refine lv_topi (fun z6 hz6 => ?_)
  have hz6 : z6 = (xs (7 * n + 3)) := by rw [hz6]; exact congrArg xs (cl_nI (by omega))
  subst hz6
  refine lv_i2l hx hb dL_law_534 rfl ?_
  refine lv_bipush (v := 32) hx hb dL_law_535 (by decide) ?_
  refine lv_lshl hx hb dL_law_537 rfl ?_
  refine lv_aload_n hx hb dL_law_538 rfl (lv_at hl 3 rfl) ?_
  refine lv_iload_n hx hb dL_law_539 rfl (lv_at hl 0 rfl) ?_
  refine lv_iconst (v := 4) hx hb dL_law_540 (by decide) ?_
  refine lv_iadd hx hb dL_law_541 ?_
  refine lv_topi (fun z7 hz7 => ?_)
  have hz7 : z7 = (nI (7 * n + 4)) := by rw [hz7]; exact nI_add (7 * n) 4
  subst hz7
  refine va_sld S.1 S.2.1 hXs hbl (Nat.not_le.mpr hbl) hMx.2.1 (vp_in_nI (n := 7 * n + 4) (by omega) (by omega)) dL_law_542 ?_
  refine lv_topi (fun z8 hz8 => ?_)
  have hz8 : z8 = (xs (7 * n + 4)) := by rw [hz8]; exact congrArg xs (cl_nI (by omega))
  subst hz8
  refine lv_i2l hx hb dL_law_543 rfl ?_
  refine lv_ldc2 hx hb hown (hts _ w_3_86) dL_law_544 ?_
  refine lv_land hx hb dL_law_547 ?_
  refine lv_lor hx hb dL_law_548 ?_
  refine mc_i hMx (rVm (rest := []) S hK hMx cI4 (XS.c0 hX) rfl (c_X4_effect l D cT hX hI (show n < 512 by omega) (xs (7 * n + 1)) (xs (7 * n + 2)) (((Int32.toInt64 (xs (7 * n + 3))) <<< (Int32.toInt64 32 &&& 63)) ||| ((Int32.toInt64 (xs (7 * n + 4))) &&& 4294967295)) H.size) sm_X4_effect w_1_169 w_1_167 ⟨Nat.le_of_ble_eq_true rfl, Nat.le_of_ble_eq_true rfl⟩ ⟨rfl, rfl⟩ rfl hl.1 rfl (Nat.le_of_ble_eq_true rfl) dL_law_549 ⟨by show 100 + 2 * n + 1 ≤ 600000; omega, by show 20000 + 16 * n + 2 ≤ 7302250; omega⟩) (fun r1 Mx1 H1 locs1 hp1 hMx1 hz1 hk1 hB1 => ?_)
  have hMr1 := hMr.other hd hk1
  have hd1 := dis.next hMr hd hB1
  have hMr : HM D (A0 s) Mr s.heap H1 locs1 := ⟨hMx1.1, hMx1.2.1, hMr1⟩
  refine lv_aload_n hx hb dL_law_552 rfl (lv_at hl 1 rfl) ?_
  refine lv_aload_n hx hb dL_law_553 rfl (lv_at hl 3 rfl) ?_
  refine lv_iload_n hx hb dL_law_554 rfl (lv_at hl 0 rfl) ?_
  refine lv_iconst (v := 1) hx hb dL_law_555 (by decide) ?_
  refine lv_iadd hx hb dL_law_556 ?_
  refine lv_topi (fun z9 hz9 => ?_)
  have hz9 : z9 = (nI (7 * n + 1)) := by rw [hz9]; exact nI_add (7 * n) 1
  subst hz9
  refine va_sld S.1 S.2.1 hXs hbl (Nat.not_le.mpr hbl) hMr.2.1 (vp_in_nI (n := 7 * n + 1) (by omega) (by omega)) dL_law_557 ?_
  refine lv_topi (fun z10 hz10 => ?_)
  have hz10 : z10 = (xs (7 * n + 1)) := by rw [hz10]; exact congrArg xs (cl_nI (by omega))
  subst hz10
  refine lv_aload_n hx hb dL_law_558 rfl (lv_at hl 3 rfl) ?_
  refine lv_iload_n hx hb dL_law_559 rfl (lv_at hl 0 rfl) ?_
  refine lv_iconst (v := 2) hx hb dL_law_560 (by decide) ?_
  refine lv_iadd hx hb dL_law_561 ?_
  refine lv_topi (fun z11 hz11 => ?_)
  have hz11 : z11 = (nI (7 * n + 2)) := by rw [hz11]; exact nI_add (7 * n) 2
  subst hz11
  refine va_sld S.1 S.2.1 hXs hbl (Nat.not_le.mpr hbl) hMr.2.1 (vp_in_nI (n := 7 * n + 2) (by omega) (by omega)) dL_law_562 ?_
  refine lv_topi (fun z12 hz12 => ?_)
  have hz12 : z12 = (xs (7 * n + 2)) := by rw [hz12]; exact congrArg xs (cl_nI (by omega))
  subst hz12
  refine lv_aload_n hx hb dL_law_563 rfl (lv_at hl 3 rfl) ?_
  refine lv_iload_n hx hb dL_law_564 rfl (lv_at hl 0 rfl) ?_
  refine lv_iconst (v := 3) hx hb dL_law_565 (by decide) ?_
  refine lv_iadd hx hb dL_law_566 ?_
  refine lv_topi (fun z13 hz13 => ?_)
  have hz13 : z13 = (nI (7 * n + 3)) := by rw [hz13]; exact nI_add (7 * n) 3
  subst hz13
  refine va_sld S.1 S.2.1 hXs hbl (Nat.not_le.mpr hbl) hMr.2.1 (vp_in_nI (n := 7 * n + 3) (by omega) (by omega)) dL_law_567 ?_
  refine lv_topi (fun z14 hz14 => ?_)
  have hz14 : z14 = (xs (7 * n + 3)) := by rw [hz14]; exact congrArg xs (cl_nI (by omega))
  subst hz14
  refine lv_i2l hx hb dL_law_568 rfl ?_
  refine lv_bipush (v := 32) hx hb dL_law_569 (by decide) ?_
  refine lv_lshl hx hb dL_law_571 rfl ?_
  refine lv_aload_n hx hb dL_law_572 rfl (lv_at hl 3 rfl) ?_
  refine lv_iload_n hx hb dL_law_573 rfl (lv_at hl 0 rfl) ?_
  refine lv_iconst (v := 4) hx hb dL_law_574 (by decide) ?_
  refine lv_iadd hx hb dL_law_575 ?_
  refine lv_topi (fun z15 hz15 => ?_)
  have hz15 : z15 = (nI (7 * n + 4)) := by rw [hz15]; exact nI_add (7 * n) 4
  subst hz15
  refine va_sld S.1 S.2.1 hXs hbl (Nat.not_le.mpr hbl) hMr.2.1 (vp_in_nI (n := 7 * n + 4) (by omega) (by omega)) dL_law_576 ?_
  refine lv_topi (fun z16 hz16 => ?_)
  have hz16 : z16 = (xs (7 * n + 4)) := by rw [hz16]; exact congrArg xs (cl_nI (by omega))
  subst hz16
  refine lv_i2l hx hb dL_law_577 rfl ?_
  refine lv_ldc2 hx hb hown (hts _ w_3_86) dL_law_578 ?_
  refine lv_land hx hb dL_law_581 ?_
  refine lv_lor hx hb dL_law_582 ?_
  refine mc_i hMr (rVm (rest := [.int r1]) S hK hMr cI5 (RS.c0 hR) rfl (c_X5_effect l D cT hR hI (show n ≤ 512 by omega) (xs (7 * n + 1)) (xs (7 * n + 2)) (((Int32.toInt64 (xs (7 * n + 3))) <<< (Int32.toInt64 32 &&& 63)) ||| ((Int32.toInt64 (xs (7 * n + 4))) &&& 4294967295)) H1.size) sm_X5_effect w_3_9 w_3_7 ⟨Nat.le_of_ble_eq_true rfl, Nat.le_of_ble_eq_true rfl⟩ ⟨rfl, rfl⟩ rfl hl.1 rfl (Nat.le_of_ble_eq_true rfl) dL_law_583 ⟨by show 100 + 2 * n + 1 + 0 ≤ 600000; omega, by show 20000 + 16 * n + 2 + 0 ≤ 7302250; omega⟩) (fun r2 Mr1 H2 locs2 hp2 hMr2 hz2 hk2 hB2 => ?_)
  have hMx2 := hMx1.hp.other hd1.symm hk2
  have hd2 := (dis.next hMx1.hp hd1.symm hB2).symm
  obtain ⟨e1, ad1, had, hX1⟩ := hp1
  obtain ⟨e2, hR1⟩ := hp2
  refine lv_icmp_eq (tgt := 1080) hx hb dL_law_586 (by decide) (fun _ => ?_) (fun w => absurd (e1.trans e2.symm) w)
  exact nx ad1 Mx1 Mr1 H2 locs2 _ _ _ had hX1 hR1 (INV.effect (xs (7 * n + 1)) (xs (7 * n + 2)) (((Int32.toInt64 (xs (7 * n + 3))) <<< (Int32.toInt64 32 &&& 63)) ||| ((Int32.toInt64 (xs (7 * n + 4))) &&& 4294967295)) hI (show n < 512 by omega)) hMr2 hMx2 hd2 (by omega) (by omega) ls hl
end LAW
