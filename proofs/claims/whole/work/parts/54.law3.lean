section LAW
variable {p : Program} {l : Launch} {e : Env} {s : State} {m : MethodId} {below : List Frame} {meth : Method} {c : Code} {b L : Nat} {xs : Nat → Int32} {D : va_G} {cT : Nat → ClassId} {fu fd : Nat → UInt64} {ad : Nat → Nat → Nat} {a : Nat → Nat} {z : SG} {n : Nat} {H : Heap} {locs : List Loc} {Mx Mr : hmp} {Q : State → Prop}
set_option maxHeartbeats 4000000 in
set_option maxRecDepth 100000 in
theorem law_failed (S : CallFix p m c code 4 s #[Value.ref b] lw_all RL) (hK : KK D cT s) (hXs : va_X b L xs s s.heap) (hbl : b < s.heap.size) (hL : L ≤ 3584) (h7 : 7 * n + 7 ≤ L) (hX : XS cT fu fd ad Mx z) (hR : RS cT a Mr z) (hI : INV n z) (hMx : HM D (A0 s) Mx s.heap H locs) (hMr : HP D (A0 s) Mr H) (hd : dis Mx Mr) (nx : ∀ (ad1 : Nat → Nat → Nat) (Mx1 Mr1 : hmp) (H1 : Heap) (locs1 : List Loc) (z1 : SG) (k1 k2 : Nat), ad1 0 0 = ad 0 0 → XS cT fu fd ad1 Mx1 z1 → RS cT a Mr1 z1 → INV (n + 1) z1 → HM D (A0 s) Mr1 s.heap H1 locs1 → HP D (A0 s) Mx1 H1 → dis Mx1 Mr1 → k1 ≤ 100 + 2 * (n + 1) → k2 ≤ 20000 + 16 * (n + 1) → ∀ ls, lv_has ls 4 [(3, .int (nI (7 * n))), (2, .ref (a 0)), (1, .ref (ad 0 0)), (0, .ref b)] → W p l e room_1 s m #[Value.ref b] below meth c H1 locs1 k1 k2 Q (F0 m 1080 ls [])) : ∀ ls, lv_has ls 4 [(3, .int (nI (7 * n))), (2, .ref (a 0)), (1, .ref (ad 0 0)), (0, .ref b)] → W p l e room_1 s m #[Value.ref b] below meth c H locs (100 + 2 * n) (20000 + 16 * n) Q (F0 m 911 ls []) := by
  intro ls hl
  have hx := S.1
  have hb := S.2.1
  have hml := S.2.2.1
  have hown := S.2.2.2.1
  have hts := S.2.2.2.2
  refine lv_aload_n hx hb dL_law_911 rfl (lv_at hl 2 rfl) ?_
  refine pc_i (rV (rest := []) S hK hMx.pr cI4 (XS.c0 hX) rfl (c_X4_failed l D cT H hMx.pr hX) sm_X4_failed w_2_71 w_2_69 ⟨Nat.le_of_ble_eq_true rfl, Nat.le_of_ble_eq_true rfl⟩ ⟨rfl, rfl⟩ rfl hl.1 rfl (Nat.le_of_ble_eq_true rfl) dL_law_912 ⟨by show 100 + 2 * n ≤ 600000; omega, by show 20000 + 16 * n ≤ 7302250; omega⟩) (fun r1 e1 => ?_)
  refine lv_aload_n hx hb dL_law_915 rfl (lv_at hl 1 rfl) ?_
  refine pc_i (rV (rest := [.int r1]) S hK hMr.pr cI5 (RS.c0 hR) rfl (c_X5_failed l D cT H hMr.pr hR hI (show n ≤ 512 by omega)) sm_X5_failed w_3_63 w_3_61 ⟨Nat.le_of_ble_eq_true rfl, Nat.le_of_ble_eq_true rfl⟩ ⟨rfl, rfl⟩ rfl hl.1 rfl (Nat.le_of_ble_eq_true rfl) dL_law_916 ⟨by show 100 + 2 * n ≤ 600000; omega, by show 20000 + 16 * n ≤ 7302250; omega⟩) (fun r2 e2 => ?_)
  refine lv_icmp_eq (tgt := 1080) hx hb dL_law_919 (by decide) (fun _ => ?_) (fun w => absurd (e1.trans e2.symm) w)
  exact nx ad Mx Mr H locs z _ _ rfl hX hR (hI.mono (Nat.le_succ n)) ⟨hMx.1, hMx.2.1, hMr⟩ hMx.hp hd (by omega) (by omega) ls hl
set_option maxHeartbeats 4000000 in
set_option maxRecDepth 100000 in
theorem law_mix (S : CallFix p m c code 4 s #[Value.ref b] lw_all RL) (hK : KK D cT s) (hXs : va_X b L xs s s.heap) (hbl : b < s.heap.size) (hL : L ≤ 3584) (h7 : 7 * n + 7 ≤ L) (hX : XS cT fu fd ad Mx z) (hR : RS cT a Mr z) (hI : INV n z) (hMx : HM D (A0 s) Mx s.heap H locs) (hMr : HP D (A0 s) Mr H) (hd : dis Mx Mr) (nx : ∀ (ad1 : Nat → Nat → Nat) (Mx1 Mr1 : hmp) (H1 : Heap) (locs1 : List Loc) (z1 : SG) (k1 k2 : Nat), ad1 0 0 = ad 0 0 → XS cT fu fd ad1 Mx1 z1 → RS cT a Mr1 z1 → INV (n + 1) z1 → HM D (A0 s) Mr1 s.heap H1 locs1 → HP D (A0 s) Mx1 H1 → dis Mx1 Mr1 → k1 ≤ 100 + 2 * (n + 1) → k2 ≤ 20000 + 16 * (n + 1) → ∀ ls, lv_has ls 4 [(3, .int (nI (7 * n))), (2, .ref (a 0)), (1, .ref (ad 0 0)), (0, .ref b)] → W p l e room_1 s m #[Value.ref b] below meth c H1 locs1 k1 k2 Q (F0 m 1080 ls [])) : ∀ ls, lv_has ls 4 [(3, .int (nI (7 * n))), (2, .ref (a 0)), (1, .ref (ad 0 0)), (0, .ref b)] → W p l e room_1 s m #[Value.ref b] below meth c H locs (100 + 2 * n) (20000 + 16 * n) Q (F0 m 924 ls []) := by
  intro ls hl
  have hx := S.1
  have hb := S.2.1
  have hml := S.2.2.1
  have hown := S.2.2.2.1
  have hts := S.2.2.2.2
  refine lv_aload_n hx hb dL_law_924 rfl (lv_at hl 2 rfl) ?_
  refine lv_aload_n hx hb dL_law_925 rfl (lv_at hl 3 rfl) ?_
  refine lv_iload_n hx hb dL_law_926 rfl (lv_at hl 0 rfl) ?_
  refine lv_iconst (v := 1) hx hb dL_law_927 (by decide) ?_
  refine lv_iadd hx hb dL_law_928 ?_
  refine lv_topi (fun z1 hz1 => ?_)
  have hz1 : z1 = (nI (7 * n + 1)) := by rw [hz1]; exact nI_add (7 * n) 1
  subst hz1
  refine va_sld S.1 S.2.1 hXs hbl (Nat.not_le.mpr hbl) hMx.2.1 (vp_in_nI (n := 7 * n + 1) (by omega) (by omega)) dL_law_929 ?_
  refine lv_topi (fun z2 hz2 => ?_)
  have hz2 : z2 = (xs (7 * n + 1)) := by rw [hz2]; exact congrArg xs (cl_nI (by omega))
  subst hz2
  refine lv_aload_n hx hb dL_law_930 rfl (lv_at hl 3 rfl) ?_
  refine lv_iload_n hx hb dL_law_931 rfl (lv_at hl 0 rfl) ?_
  refine lv_iconst (v := 2) hx hb dL_law_932 (by decide) ?_
  refine lv_iadd hx hb dL_law_933 ?_
  refine lv_topi (fun z3 hz3 => ?_)
  have hz3 : z3 = (nI (7 * n + 2)) := by rw [hz3]; exact nI_add (7 * n) 2
  subst hz3
  refine va_sld S.1 S.2.1 hXs hbl (Nat.not_le.mpr hbl) hMx.2.1 (vp_in_nI (n := 7 * n + 2) (by omega) (by omega)) dL_law_934 ?_
  refine lv_topi (fun z4 hz4 => ?_)
  have hz4 : z4 = (xs (7 * n + 2)) := by rw [hz4]; exact congrArg xs (cl_nI (by omega))
  subst hz4
  refine mc_i hMx (rVm (rest := []) S hK hMx cI4 (XS.c0 hX) rfl (c_X4_mix l D cT hX hI (show n < 512 by omega) (xs (7 * n + 1)) (xs (7 * n + 2)) H.size) sm_X4_mix w_2_75 w_2_73 ⟨Nat.le_of_ble_eq_true rfl, Nat.le_of_ble_eq_true rfl⟩ ⟨rfl, rfl⟩ rfl hl.1 rfl (Nat.le_of_ble_eq_true rfl) dL_law_935 ⟨by show 100 + 2 * n + 0 ≤ 600000; omega, by show 20000 + 16 * n + 0 ≤ 7302250; omega⟩) (fun r1 Mx1 H1 locs1 hp1 hMx1 hz1 hk1 hB1 => ?_)
  have hMr1 := hMr.other hd hk1
  have hd1 := dis.next hMr hd hB1
  have hMr : HM D (A0 s) Mr s.heap H1 locs1 := ⟨hMx1.1, hMx1.2.1, hMr1⟩
  refine lv_aload_n hx hb dL_law_938 rfl (lv_at hl 1 rfl) ?_
  refine lv_aload_n hx hb dL_law_939 rfl (lv_at hl 3 rfl) ?_
  refine lv_iload_n hx hb dL_law_940 rfl (lv_at hl 0 rfl) ?_
  refine lv_iconst (v := 1) hx hb dL_law_941 (by decide) ?_
  refine lv_iadd hx hb dL_law_942 ?_
  refine lv_topi (fun z5 hz5 => ?_)
  have hz5 : z5 = (nI (7 * n + 1)) := by rw [hz5]; exact nI_add (7 * n) 1
  subst hz5
  refine va_sld S.1 S.2.1 hXs hbl (Nat.not_le.mpr hbl) hMr.2.1 (vp_in_nI (n := 7 * n + 1) (by omega) (by omega)) dL_law_943 ?_
  refine lv_topi (fun z6 hz6 => ?_)
  have hz6 : z6 = (xs (7 * n + 1)) := by rw [hz6]; exact congrArg xs (cl_nI (by omega))
  subst hz6
  refine lv_aload_n hx hb dL_law_944 rfl (lv_at hl 3 rfl) ?_
  refine lv_iload_n hx hb dL_law_945 rfl (lv_at hl 0 rfl) ?_
  refine lv_iconst (v := 2) hx hb dL_law_946 (by decide) ?_
  refine lv_iadd hx hb dL_law_947 ?_
  refine lv_topi (fun z7 hz7 => ?_)
  have hz7 : z7 = (nI (7 * n + 2)) := by rw [hz7]; exact nI_add (7 * n) 2
  subst hz7
  refine va_sld S.1 S.2.1 hXs hbl (Nat.not_le.mpr hbl) hMr.2.1 (vp_in_nI (n := 7 * n + 2) (by omega) (by omega)) dL_law_948 ?_
  refine lv_topi (fun z8 hz8 => ?_)
  have hz8 : z8 = (xs (7 * n + 2)) := by rw [hz8]; exact congrArg xs (cl_nI (by omega))
  subst hz8
  refine mc_i hMr (rVm (rest := [.int r1]) S hK hMr cI5 (RS.c0 hR) rfl (c_X5_mix l D cT hR hI (show n ≤ 512 by omega) (xs (7 * n + 1)) (xs (7 * n + 2)) H1.size) sm_X5_mix w_3_67 w_3_65 ⟨Nat.le_of_ble_eq_true rfl, Nat.le_of_ble_eq_true rfl⟩ ⟨rfl, rfl⟩ rfl hl.1 rfl (Nat.le_of_ble_eq_true rfl) dL_law_949 ⟨by show 100 + 2 * n + 0 + 0 ≤ 600000; omega, by show 20000 + 16 * n + 0 + 0 ≤ 7302250; omega⟩) (fun r2 Mr1 H2 locs2 hp2 hMr2 hz2 hk2 hB2 => ?_)
  have hMx2 := hMx1.hp.other hd1.symm hk2
  have hd2 := (dis.next hMx1.hp hd1.symm hB2).symm
  obtain ⟨e1, ad1, had, hX1⟩ := hp1
  obtain ⟨e2, hR1⟩ := hp2
  refine lv_icmp_eq (tgt := 1080) hx hb dL_law_952 (by decide) (fun _ => ?_) (fun w => absurd (e1.trans e2.symm) w)
  exact nx ad1 Mx1 Mr1 H2 locs2 _ _ _ had hX1 hR1 (INV.mix (xs (7 * n + 1)) (xs (7 * n + 2)) hI) hMr2 hMx2 hd2 (by omega) (by omega) ls hl
set_option maxHeartbeats 4000000 in
set_option maxRecDepth 100000 in
theorem law_hush (S : CallFix p m c code 4 s #[Value.ref b] lw_all RL) (hK : KK D cT s) (hXs : va_X b L xs s s.heap) (hbl : b < s.heap.size) (hL : L ≤ 3584) (h7 : 7 * n + 7 ≤ L) (hX : XS cT fu fd ad Mx z) (hR : RS cT a Mr z) (hI : INV n z) (hMx : HM D (A0 s) Mx s.heap H locs) (hMr : HP D (A0 s) Mr H) (hd : dis Mx Mr) (nx : ∀ (ad1 : Nat → Nat → Nat) (Mx1 Mr1 : hmp) (H1 : Heap) (locs1 : List Loc) (z1 : SG) (k1 k2 : Nat), ad1 0 0 = ad 0 0 → XS cT fu fd ad1 Mx1 z1 → RS cT a Mr1 z1 → INV (n + 1) z1 → HM D (A0 s) Mr1 s.heap H1 locs1 → HP D (A0 s) Mx1 H1 → dis Mx1 Mr1 → k1 ≤ 100 + 2 * (n + 1) → k2 ≤ 20000 + 16 * (n + 1) → ∀ ls, lv_has ls 4 [(3, .int (nI (7 * n))), (2, .ref (a 0)), (1, .ref (ad 0 0)), (0, .ref b)] → W p l e room_1 s m #[Value.ref b] below meth c H1 locs1 k1 k2 Q (F0 m 1080 ls [])) : ∀ ls, lv_has ls 4 [(3, .int (nI (7 * n))), (2, .ref (a 0)), (1, .ref (ad 0 0)), (0, .ref b)] → W p l e room_1 s m #[Value.ref b] below meth c H locs (100 + 2 * n) (20000 + 16 * n) Q (F0 m 957 ls []) := by
  intro ls hl
  have hx := S.1
  have hb := S.2.1
  have hml := S.2.2.1
  have hown := S.2.2.2.1
  have hts := S.2.2.2.2
  refine lv_aload_n hx hb dL_law_957 rfl (lv_at hl 2 rfl) ?_
  refine mc_i hMx (rVm (rest := []) S hK hMx cI4 (XS.c0 hX) rfl (c_X4_hush l D cT hX hI (show n < 512 by omega)  H.size) sm_X4_hush w_2_80 w_2_78 ⟨Nat.le_of_ble_eq_true rfl, Nat.le_of_ble_eq_true rfl⟩ ⟨rfl, rfl⟩ rfl hl.1 rfl (Nat.le_of_ble_eq_true rfl) dL_law_958 ⟨by show 100 + 2 * n + 0 ≤ 600000; omega, by show 20000 + 16 * n + 0 ≤ 7302250; omega⟩) (fun r1 Mx1 H1 locs1 hp1 hMx1 hz1 hk1 hB1 => ?_)
  have hMr1 := hMr.other hd hk1
  have hd1 := dis.next hMr hd hB1
  have hMr : HM D (A0 s) Mr s.heap H1 locs1 := ⟨hMx1.1, hMx1.2.1, hMr1⟩
  refine lv_aload_n hx hb dL_law_961 rfl (lv_at hl 1 rfl) ?_
  refine mc_i hMr (rVm (rest := [.int r1]) S hK hMr cI5 (RS.c0 hR) rfl (c_X5_hush l D cT hR hI (show n ≤ 512 by omega)  H1.size) sm_X5_hush w_3_72 w_3_70 ⟨Nat.le_of_ble_eq_true rfl, Nat.le_of_ble_eq_true rfl⟩ ⟨rfl, rfl⟩ rfl hl.1 rfl (Nat.le_of_ble_eq_true rfl) dL_law_962 ⟨by show 100 + 2 * n + 0 + 0 ≤ 600000; omega, by show 20000 + 16 * n + 0 + 0 ≤ 7302250; omega⟩) (fun r2 Mr1 H2 locs2 hp2 hMr2 hz2 hk2 hB2 => ?_)
  have hMx2 := hMx1.hp.other hd1.symm hk2
  have hd2 := (dis.next hMx1.hp hd1.symm hB2).symm
  obtain ⟨e1, ad1, had, hX1⟩ := hp1
  obtain ⟨e2, hR1⟩ := hp2
  refine lv_icmp_eq (tgt := 1080) hx hb dL_law_965 (by decide) (fun _ => ?_) (fun w => absurd (e1.trans e2.symm) w)
  exact nx ad1 Mx1 Mr1 H2 locs2 _ _ _ had hX1 hR1 (INV.hush hI) hMr2 hMx2 hd2 (by omega) (by omega) ls hl
set_option maxHeartbeats 4000000 in
set_option maxRecDepth 100000 in
theorem law_at (S : CallFix p m c code 4 s #[Value.ref b] lw_all RL) (hK : KK D cT s) (hXs : va_X b L xs s s.heap) (hbl : b < s.heap.size) (hL : L ≤ 3584) (h7 : 7 * n + 7 ≤ L) (hX : XS cT fu fd ad Mx z) (hR : RS cT a Mr z) (hI : INV n z) (hMx : HM D (A0 s) Mx s.heap H locs) (hMr : HP D (A0 s) Mr H) (hd : dis Mx Mr) (nx : ∀ (ad1 : Nat → Nat → Nat) (Mx1 Mr1 : hmp) (H1 : Heap) (locs1 : List Loc) (z1 : SG) (k1 k2 : Nat), ad1 0 0 = ad 0 0 → XS cT fu fd ad1 Mx1 z1 → RS cT a Mr1 z1 → INV (n + 1) z1 → HM D (A0 s) Mr1 s.heap H1 locs1 → HP D (A0 s) Mx1 H1 → dis Mx1 Mr1 → k1 ≤ 100 + 2 * (n + 1) → k2 ≤ 20000 + 16 * (n + 1) → ∀ ls, lv_has ls 4 [(3, .int (nI (7 * n))), (2, .ref (a 0)), (1, .ref (ad 0 0)), (0, .ref b)] → W p l e room_1 s m #[Value.ref b] below meth c H1 locs1 k1 k2 Q (F0 m 1080 ls [])) : ∀ ls, lv_has ls 4 [(3, .int (nI (7 * n))), (2, .ref (a 0)), (1, .ref (ad 0 0)), (0, .ref b)] → W p l e room_1 s m #[Value.ref b] below meth c H locs (100 + 2 * n) (20000 + 16 * n) Q (F0 m 970 ls []) := by
  intro ls hl
  have hx := S.1
  have hb := S.2.1
  have hml := S.2.2.1
  have hown := S.2.2.2.1
  have hts := S.2.2.2.2
  refine lv_aload_n hx hb dL_law_970 rfl (lv_at hl 2 rfl) ?_
  refine lv_aload_n hx hb dL_law_971 rfl (lv_at hl 3 rfl) ?_
  refine lv_iload_n hx hb dL_law_972 rfl (lv_at hl 0 rfl) ?_
  refine lv_iconst (v := 1) hx hb dL_law_973 (by decide) ?_
  refine lv_iadd hx hb dL_law_974 ?_
  refine lv_topi (fun z1 hz1 => ?_)
  have hz1 : z1 = (nI (7 * n + 1)) := by rw [hz1]; exact nI_add (7 * n) 1
  subst hz1
  refine va_sld S.1 S.2.1 hXs hbl (Nat.not_le.mpr hbl) hMx.2.1 (vp_in_nI (n := 7 * n + 1) (by omega) (by omega)) dL_law_975 ?_
  refine lv_topi (fun z2 hz2 => ?_)
  have hz2 : z2 = (xs (7 * n + 1)) := by rw [hz2]; exact congrArg xs (cl_nI (by omega))
  subst hz2
  refine lv_aload_n hx hb dL_law_976 rfl (lv_at hl 3 rfl) ?_
  refine lv_iload_n hx hb dL_law_977 rfl (lv_at hl 0 rfl) ?_
  refine lv_iconst (v := 2) hx hb dL_law_978 (by decide) ?_
  refine lv_iadd hx hb dL_law_979 ?_
  refine lv_topi (fun z3 hz3 => ?_)
  have hz3 : z3 = (nI (7 * n + 2)) := by rw [hz3]; exact nI_add (7 * n) 2
  subst hz3
  refine va_sld S.1 S.2.1 hXs hbl (Nat.not_le.mpr hbl) hMx.2.1 (vp_in_nI (n := 7 * n + 2) (by omega) (by omega)) dL_law_980 ?_
  refine lv_topi (fun z4 hz4 => ?_)
  have hz4 : z4 = (xs (7 * n + 2)) := by rw [hz4]; exact congrArg xs (cl_nI (by omega))
  subst hz4
  refine mc_i hMx (rVm (rest := []) S hK hMx cI4 (XS.c0 hX) rfl (c_X4_at l D cT hX hI (show n < 512 by omega) (xs (7 * n + 1)) (xs (7 * n + 2)) H.size) sm_X4_at w_2_84 w_2_82 ⟨Nat.le_of_ble_eq_true rfl, Nat.le_of_ble_eq_true rfl⟩ ⟨rfl, rfl⟩ rfl hl.1 rfl (Nat.le_of_ble_eq_true rfl) dL_law_981 ⟨by show 100 + 2 * n + 0 ≤ 600000; omega, by show 20000 + 16 * n + 0 ≤ 7302250; omega⟩) (fun r1 Mx1 H1 locs1 hp1 hMx1 hz1 hk1 hB1 => ?_)
  have hMr1 := hMr.other hd hk1
  have hd1 := dis.next hMr hd hB1
  have hMr : HM D (A0 s) Mr s.heap H1 locs1 := ⟨hMx1.1, hMx1.2.1, hMr1⟩
  refine lv_aload_n hx hb dL_law_984 rfl (lv_at hl 1 rfl) ?_
  refine lv_aload_n hx hb dL_law_985 rfl (lv_at hl 3 rfl) ?_
  refine lv_iload_n hx hb dL_law_986 rfl (lv_at hl 0 rfl) ?_
  refine lv_iconst (v := 1) hx hb dL_law_987 (by decide) ?_
  refine lv_iadd hx hb dL_law_988 ?_
  refine lv_topi (fun z5 hz5 => ?_)
  have hz5 : z5 = (nI (7 * n + 1)) := by rw [hz5]; exact nI_add (7 * n) 1
  subst hz5
  refine va_sld S.1 S.2.1 hXs hbl (Nat.not_le.mpr hbl) hMr.2.1 (vp_in_nI (n := 7 * n + 1) (by omega) (by omega)) dL_law_989 ?_
  refine lv_topi (fun z6 hz6 => ?_)
  have hz6 : z6 = (xs (7 * n + 1)) := by rw [hz6]; exact congrArg xs (cl_nI (by omega))
  subst hz6
  refine lv_aload_n hx hb dL_law_990 rfl (lv_at hl 3 rfl) ?_
  refine lv_iload_n hx hb dL_law_991 rfl (lv_at hl 0 rfl) ?_
  refine lv_iconst (v := 2) hx hb dL_law_992 (by decide) ?_
  refine lv_iadd hx hb dL_law_993 ?_
  refine lv_topi (fun z7 hz7 => ?_)
  have hz7 : z7 = (nI (7 * n + 2)) := by rw [hz7]; exact nI_add (7 * n) 2
  subst hz7
  refine va_sld S.1 S.2.1 hXs hbl (Nat.not_le.mpr hbl) hMr.2.1 (vp_in_nI (n := 7 * n + 2) (by omega) (by omega)) dL_law_994 ?_
  refine lv_topi (fun z8 hz8 => ?_)
  have hz8 : z8 = (xs (7 * n + 2)) := by rw [hz8]; exact congrArg xs (cl_nI (by omega))
  subst hz8
  refine mc_i hMr (rVm (rest := [.int r1]) S hK hMr cI5 (RS.c0 hR) rfl (c_X5_at l D cT hR hI (show n ≤ 512 by omega) (xs (7 * n + 1)) (xs (7 * n + 2)) H1.size) sm_X5_at w_3_76 w_3_74 ⟨Nat.le_of_ble_eq_true rfl, Nat.le_of_ble_eq_true rfl⟩ ⟨rfl, rfl⟩ rfl hl.1 rfl (Nat.le_of_ble_eq_true rfl) dL_law_995 ⟨by show 100 + 2 * n + 0 + 0 ≤ 600000; omega, by show 20000 + 16 * n + 0 + 0 ≤ 7302250; omega⟩) (fun r2 Mr1 H2 locs2 hp2 hMr2 hz2 hk2 hB2 => ?_)
  have hMx2 := hMx1.hp.other hd1.symm hk2
  have hd2 := (dis.next hMx1.hp hd1.symm hB2).symm
  obtain ⟨e1, ad1, had, hX1⟩ := hp1
  obtain ⟨e2, hR1⟩ := hp2
  refine lv_icmp_eq (tgt := 1080) hx hb dL_law_998 (by decide) (fun _ => ?_) (fun w => absurd (e1.trans e2.symm) w)
  exact nx ad1 Mx1 Mr1 H2 locs2 _ _ _ had hX1 hR1 (INV.at_ (xs (7 * n + 1)) (xs (7 * n + 2)) hI) hMr2 hMx2 hd2 (by omega) (by omega) ls hl
set_option maxHeartbeats 4000000 in
set_option maxRecDepth 100000 in
theorem law_clock (S : CallFix p m c code 4 s #[Value.ref b] lw_all RL) (hK : KK D cT s) (hXs : va_X b L xs s s.heap) (hbl : b < s.heap.size) (hL : L ≤ 3584) (h7 : 7 * n + 7 ≤ L) (hX : XS cT fu fd ad Mx z) (hR : RS cT a Mr z) (hI : INV n z) (hMx : HM D (A0 s) Mx s.heap H locs) (hMr : HP D (A0 s) Mr H) (hd : dis Mx Mr) (nx : ∀ (ad1 : Nat → Nat → Nat) (Mx1 Mr1 : hmp) (H1 : Heap) (locs1 : List Loc) (z1 : SG) (k1 k2 : Nat), ad1 0 0 = ad 0 0 → XS cT fu fd ad1 Mx1 z1 → RS cT a Mr1 z1 → INV (n + 1) z1 → HM D (A0 s) Mr1 s.heap H1 locs1 → HP D (A0 s) Mx1 H1 → dis Mx1 Mr1 → k1 ≤ 100 + 2 * (n + 1) → k2 ≤ 20000 + 16 * (n + 1) → ∀ ls, lv_has ls 4 [(3, .int (nI (7 * n))), (2, .ref (a 0)), (1, .ref (ad 0 0)), (0, .ref b)] → W p l e room_1 s m #[Value.ref b] below meth c H1 locs1 k1 k2 Q (F0 m 1080 ls [])) : ∀ ls, lv_has ls 4 [(3, .int (nI (7 * n))), (2, .ref (a 0)), (1, .ref (ad 0 0)), (0, .ref b)] → W p l e room_1 s m #[Value.ref b] below meth c H locs (100 + 2 * n) (20000 + 16 * n) Q (F0 m 1003 ls []) := by
  intro ls hl
  have hx := S.1
  have hb := S.2.1
  have hml := S.2.2.1
  have hown := S.2.2.2.1
  have hts := S.2.2.2.2
  refine lv_aload_n hx hb dL_law_1003 rfl (lv_at hl 2 rfl) ?_
  refine lv_aload_n hx hb dL_law_1004 rfl (lv_at hl 3 rfl) ?_
  refine lv_iload_n hx hb dL_law_1005 rfl (lv_at hl 0 rfl) ?_
  refine lv_iconst (v := 1) hx hb dL_law_1006 (by decide) ?_
  refine lv_iadd hx hb dL_law_1007 ?_
  refine lv_topi (fun z1 hz1 => ?_)
  have hz1 : z1 = (nI (7 * n + 1)) := by rw [hz1]; exact nI_add (7 * n) 1
  subst hz1
  refine va_sld S.1 S.2.1 hXs hbl (Nat.not_le.mpr hbl) hMx.2.1 (vp_in_nI (n := 7 * n + 1) (by omega) (by omega)) dL_law_1008 ?_
  refine lv_topi (fun z2 hz2 => ?_)
  have hz2 : z2 = (xs (7 * n + 1)) := by rw [hz2]; exact congrArg xs (cl_nI (by omega))
  subst hz2
  refine lv_i2l hx hb dL_law_1009 rfl ?_
  refine lv_bipush (v := 32) hx hb dL_law_1010 (by decide) ?_
  refine lv_lshl hx hb dL_law_1012 rfl ?_
  refine lv_aload_n hx hb dL_law_1013 rfl (lv_at hl 3 rfl) ?_
  refine lv_iload_n hx hb dL_law_1014 rfl (lv_at hl 0 rfl) ?_
  refine lv_iconst (v := 2) hx hb dL_law_1015 (by decide) ?_
  refine lv_iadd hx hb dL_law_1016 ?_
  refine lv_topi (fun z3 hz3 => ?_)
  have hz3 : z3 = (nI (7 * n + 2)) := by rw [hz3]; exact nI_add (7 * n) 2
  subst hz3
  refine va_sld S.1 S.2.1 hXs hbl (Nat.not_le.mpr hbl) hMx.2.1 (vp_in_nI (n := 7 * n + 2) (by omega) (by omega)) dL_law_1017 ?_
  refine lv_topi (fun z4 hz4 => ?_)
  have hz4 : z4 = (xs (7 * n + 2)) := by rw [hz4]; exact congrArg xs (cl_nI (by omega))
  subst hz4
  refine lv_i2l hx hb dL_law_1018 rfl ?_
  refine lv_ldc2 hx hb hown (hts _ w_3_86) dL_law_1019 ?_
  refine lv_land hx hb dL_law_1022 ?_
  refine lv_lor hx hb dL_law_1023 ?_
  refine lv_aload_n hx hb dL_law_1024 rfl (lv_at hl 3 rfl) ?_
  refine lv_iload_n hx hb dL_law_1025 rfl (lv_at hl 0 rfl) ?_
  refine lv_iconst (v := 3) hx hb dL_law_1026 (by decide) ?_
  refine lv_iadd hx hb dL_law_1027 ?_
  refine lv_topi (fun z5 hz5 => ?_)
  have hz5 : z5 = (nI (7 * n + 3)) := by rw [hz5]; exact nI_add (7 * n) 3
  subst hz5
  refine va_sld S.1 S.2.1 hXs hbl (Nat.not_le.mpr hbl) hMx.2.1 (vp_in_nI (n := 7 * n + 3) (by omega) (by omega)) dL_law_1028 ?_
  refine lv_topi (fun z6 hz6 => ?_)
  have hz6 : z6 = (xs (7 * n + 3)) := by rw [hz6]; exact congrArg xs (cl_nI (by omega))
  subst hz6
  refine mc_i hMx (rVm (rest := []) S hK hMx cI4 (XS.c0 hX) rfl (c_X4_clock l D cT hX hI (show n < 512 by omega) (((Int32.toInt64 (xs (7 * n + 1))) <<< (Int32.toInt64 32 &&& 63)) ||| ((Int32.toInt64 (xs (7 * n + 2))) &&& 4294967295)) (xs (7 * n + 3)) H.size) sm_X4_clock w_2_88 w_2_86 ⟨Nat.le_of_ble_eq_true rfl, Nat.le_of_ble_eq_true rfl⟩ ⟨rfl, rfl⟩ rfl hl.1 rfl (Nat.le_of_ble_eq_true rfl) dL_law_1029 ⟨by show 100 + 2 * n + 0 ≤ 600000; omega, by show 20000 + 16 * n + 0 ≤ 7302250; omega⟩) (fun r1 Mx1 H1 locs1 hp1 hMx1 hz1 hk1 hB1 => ?_)
  have hMr1 := hMr.other hd hk1
  have hd1 := dis.next hMr hd hB1
  have hMr : HM D (A0 s) Mr s.heap H1 locs1 := ⟨hMx1.1, hMx1.2.1, hMr1⟩
  refine lv_aload_n hx hb dL_law_1032 rfl (lv_at hl 1 rfl) ?_
  refine lv_aload_n hx hb dL_law_1033 rfl (lv_at hl 3 rfl) ?_
  refine lv_iload_n hx hb dL_law_1034 rfl (lv_at hl 0 rfl) ?_
  refine lv_iconst (v := 1) hx hb dL_law_1035 (by decide) ?_
  refine lv_iadd hx hb dL_law_1036 ?_
  refine lv_topi (fun z7 hz7 => ?_)
  have hz7 : z7 = (nI (7 * n + 1)) := by rw [hz7]; exact nI_add (7 * n) 1
  subst hz7
  refine va_sld S.1 S.2.1 hXs hbl (Nat.not_le.mpr hbl) hMr.2.1 (vp_in_nI (n := 7 * n + 1) (by omega) (by omega)) dL_law_1037 ?_
  refine lv_topi (fun z8 hz8 => ?_)
  have hz8 : z8 = (xs (7 * n + 1)) := by rw [hz8]; exact congrArg xs (cl_nI (by omega))
  subst hz8
  refine lv_i2l hx hb dL_law_1038 rfl ?_
  refine lv_bipush (v := 32) hx hb dL_law_1039 (by decide) ?_
  refine lv_lshl hx hb dL_law_1041 rfl ?_
  refine lv_aload_n hx hb dL_law_1042 rfl (lv_at hl 3 rfl) ?_
  refine lv_iload_n hx hb dL_law_1043 rfl (lv_at hl 0 rfl) ?_
  refine lv_iconst (v := 2) hx hb dL_law_1044 (by decide) ?_
  refine lv_iadd hx hb dL_law_1045 ?_
  refine lv_topi (fun z9 hz9 => ?_)
  have hz9 : z9 = (nI (7 * n + 2)) := by rw [hz9]; exact nI_add (7 * n) 2
  subst hz9
  refine va_sld S.1 S.2.1 hXs hbl (Nat.not_le.mpr hbl) hMr.2.1 (vp_in_nI (n := 7 * n + 2) (by omega) (by omega)) dL_law_1046 ?_
  refine lv_topi (fun z10 hz10 => ?_)
  have hz10 : z10 = (xs (7 * n + 2)) := by rw [hz10]; exact congrArg xs (cl_nI (by omega))
  subst hz10
  refine lv_i2l hx hb dL_law_1047 rfl ?_
  refine lv_ldc2 hx hb hown (hts _ w_3_86) dL_law_1048 ?_
  refine lv_land hx hb dL_law_1051 ?_
  refine lv_lor hx hb dL_law_1052 ?_
  refine lv_aload_n hx hb dL_law_1053 rfl (lv_at hl 3 rfl) ?_
  refine lv_iload_n hx hb dL_law_1054 rfl (lv_at hl 0 rfl) ?_
  refine lv_iconst (v := 3) hx hb dL_law_1055 (by decide) ?_
  refine lv_iadd hx hb dL_law_1056 ?_
  refine lv_topi (fun z11 hz11 => ?_)
  have hz11 : z11 = (nI (7 * n + 3)) := by rw [hz11]; exact nI_add (7 * n) 3
  subst hz11
  refine va_sld S.1 S.2.1 hXs hbl (Nat.not_le.mpr hbl) hMr.2.1 (vp_in_nI (n := 7 * n + 3) (by omega) (by omega)) dL_law_1057 ?_
  refine lv_topi (fun z12 hz12 => ?_)
  have hz12 : z12 = (xs (7 * n + 3)) := by rw [hz12]; exact congrArg xs (cl_nI (by omega))
  subst hz12
  refine mc_i hMr (rVm (rest := [.int r1]) S hK hMr cI5 (RS.c0 hR) rfl (c_X5_clock l D cT hR hI (show n ≤ 512 by omega) (((Int32.toInt64 (xs (7 * n + 1))) <<< (Int32.toInt64 32 &&& 63)) ||| ((Int32.toInt64 (xs (7 * n + 2))) &&& 4294967295)) (xs (7 * n + 3)) H1.size) sm_X5_clock w_3_80 w_3_78 ⟨Nat.le_of_ble_eq_true rfl, Nat.le_of_ble_eq_true rfl⟩ ⟨rfl, rfl⟩ rfl hl.1 rfl (Nat.le_of_ble_eq_true rfl) dL_law_1058 ⟨by show 100 + 2 * n + 0 + 0 ≤ 600000; omega, by show 20000 + 16 * n + 0 + 0 ≤ 7302250; omega⟩) (fun r2 Mr1 H2 locs2 hp2 hMr2 hz2 hk2 hB2 => ?_)
  have hMx2 := hMx1.hp.other hd1.symm hk2
  have hd2 := (dis.next hMx1.hp hd1.symm hB2).symm
  obtain ⟨e1, ad1, had, hX1⟩ := hp1
  obtain ⟨e2, hR1⟩ := hp2
  refine lv_icmp_eq (tgt := 1080) hx hb dL_law_1061 (by decide) (fun _ => ?_) (fun w => absurd (e1.trans e2.symm) w)
  exact nx ad1 Mx1 Mr1 H2 locs2 _ _ _ had hX1 hR1 (INV.clock (((Int32.toInt64 (xs (7 * n + 1))) <<< (Int32.toInt64 32 &&& 63)) ||| ((Int32.toInt64 (xs (7 * n + 2))) &&& 4294967295)) (xs (7 * n + 3)) hI) hMr2 hMx2 hd2 (by omega) (by omega) ls hl
set_option maxHeartbeats 4000000 in
set_option maxRecDepth 100000 in
theorem law_told (S : CallFix p m c code 4 s #[Value.ref b] lw_all RL) (hK : KK D cT s) (hXs : va_X b L xs s s.heap) (hbl : b < s.heap.size) (hL : L ≤ 3584) (h7 : 7 * n + 7 ≤ L) (hX : XS cT fu fd ad Mx z) (hR : RS cT a Mr z) (hI : INV n z) (hMx : HM D (A0 s) Mx s.heap H locs) (hMr : HP D (A0 s) Mr H) (hd : dis Mx Mr) (nx : ∀ (ad1 : Nat → Nat → Nat) (Mx1 Mr1 : hmp) (H1 : Heap) (locs1 : List Loc) (z1 : SG) (k1 k2 : Nat), ad1 0 0 = ad 0 0 → XS cT fu fd ad1 Mx1 z1 → RS cT a Mr1 z1 → INV (n + 1) z1 → HM D (A0 s) Mr1 s.heap H1 locs1 → HP D (A0 s) Mx1 H1 → dis Mx1 Mr1 → k1 ≤ 100 + 2 * (n + 1) → k2 ≤ 20000 + 16 * (n + 1) → ∀ ls, lv_has ls 4 [(3, .int (nI (7 * n))), (2, .ref (a 0)), (1, .ref (ad 0 0)), (0, .ref b)] → W p l e room_1 s m #[Value.ref b] below meth c H1 locs1 k1 k2 Q (F0 m 1080 ls [])) : ∀ ls, lv_has ls 4 [(3, .int (nI (7 * n))), (2, .ref (a 0)), (1, .ref (ad 0 0)), (0, .ref b)] → W p l e room_1 s m #[Value.ref b] below meth c H locs (100 + 2 * n) (20000 + 16 * n) Q (F0 m 1066 ls []) := by
  intro ls hl
  have hx := S.1
  have hb := S.2.1
  have hml := S.2.2.1
  have hown := S.2.2.2.1
  have hts := S.2.2.2.2
  refine lv_aload_n hx hb dL_law_1066 rfl (lv_at hl 2 rfl) ?_
  refine pc_l (rV (rest := []) S hK hMx.pr cI4 (XS.c0 hX) rfl (c_X4_told l D cT H hMx.pr hX) sm_X4_told w_2_92 w_2_90 ⟨Nat.le_of_ble_eq_true rfl, Nat.le_of_ble_eq_true rfl⟩ ⟨rfl, rfl⟩ rfl hl.1 rfl (Nat.le_of_ble_eq_true rfl) dL_law_1067 ⟨by show 100 + 2 * n ≤ 600000; omega, by show 20000 + 16 * n ≤ 7302250; omega⟩) (fun r1 e1 => ?_)
  refine lv_aload_n hx hb dL_law_1070 rfl (lv_at hl 1 rfl) ?_
  refine pc_l (rV (rest := [.long r1]) S hK hMr.pr cI5 (RS.c0 hR) rfl (c_X5_told l D cT H hMr.pr hR hI (show n ≤ 512 by omega)) sm_X5_told w_3_84 w_3_82 ⟨Nat.le_of_ble_eq_true rfl, Nat.le_of_ble_eq_true rfl⟩ ⟨rfl, rfl⟩ rfl hl.1 rfl (Nat.le_of_ble_eq_true rfl) dL_law_1071 ⟨by show 100 + 2 * n ≤ 600000; omega, by show 20000 + 16 * n ≤ 7302250; omega⟩) (fun r2 e2 => ?_)
  refine W.lcmp hx hb dL_law_1074 ?_
  refine lv_if_eq (tgt := 1080) hx hb dL_law_1075 (by decide) (fun _ => ?_) (fun w => absurd ((cv_lcmp_eq _ _).mpr (e1.trans e2.symm)) w)
  exact nx ad Mx Mr H locs z _ _ rfl hX hR (hI.mono (Nat.le_succ n)) ⟨hMx.1, hMx.2.1, hMr⟩ hMx.hp hd (by omega) (by omega) ls hl
end LAW
