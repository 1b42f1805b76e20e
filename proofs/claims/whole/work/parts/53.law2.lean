section LAW
variable {p : Program} {l : Launch} {e : Env} {s : State} {m : MethodId} {below : List Frame} {meth : Method} {c : Code} {b L : Nat} {xs : Nat → Int32} {D : va_G} {cT : Nat → ClassId} {fu fd : Nat → UInt64} {ad : Nat → Nat → Nat} {a : Nat → Nat} {z : SG} {n : Nat} {H : Heap} {locs : List Loc} {Mx Mr : hmp} {Q : State → Prop}
set_option maxHeartbeats 4000000 in
set_option maxRecDepth 100000 in
theorem law_make (S : CallFix p m c code 4 s #[Value.ref b] lw_all RL) (hK : KK D cT s) (hXs : va_X b L xs s s.heap) (hbl : b < s.heap.size) (hL : L ≤ 3584) (h7 : 7 * n + 7 ≤ L) (hX : XS cT fu fd ad Mx z) (hR : RS cT a Mr z) (hI : INV n z) (hMx : HM D (A0 s) Mx s.heap H locs) (hMr : HP D (A0 s) Mr H) (hd : dis Mx Mr) (nx : ∀ (ad1 : Nat → Nat → Nat) (Mx1 Mr1 : hmp) (H1 : Heap) (locs1 : List Loc) (z1 : SG) (k1 k2 : Nat), ad1 0 0 = ad 0 0 → XS cT fu fd ad1 Mx1 z1 → RS cT a Mr1 z1 → INV (n + 1) z1 → HM D (A0 s) Mr1 s.heap H1 locs1 → HP D (A0 s) Mx1 H1 → dis Mx1 Mr1 → k1 ≤ 100 + 2 * (n + 1) → k2 ≤ 20000 + 16 * (n + 1) → ∀ ls, lv_has ls 4 [(3, .int (nI (7 * n))), (2, .ref (a 0)), (1, .ref (ad 0 0)), (0, .ref b)] → W p l e room_1 s m #[Value.ref b] below meth c H1 locs1 k1 k2 Q (F0 m 1080 ls [])) : ∀ ls, lv_has ls 4 [(3, .int (nI (7 * n))), (2, .ref (a 0)), (1, .ref (ad 0 0)), (0, .ref b)] → W p l e room_1 s m #[Value.ref b] below meth c H locs (100 + 2 * n) (20000 + 16 * n) Q (F0 m 591 ls []) := by
  intro ls hl
  have hx := S.1
  have hb := S.2.1
  have hml := S.2.2.1
  have hown := S.2.2.2.1
  have hts := S.2.2.2.2
  refine lv_aload_n hx hb dL_law_591 rfl (lv_at hl 2 rfl) ?_
  refine lv_aload_n hx hb dL_law_592 rfl (lv_at hl 3 rfl) ?_
  refine lv_iload_n hx hb dL_law_593 rfl (lv_at hl 0 rfl) ?_
  refine lv_iconst (v := 1) hx hb dL_law_594 (by decide) ?_
  refine lv_iadd hx hb dL_law_595 ?_
  refine lv_topi (fun z1 hz1 => ?_)
  have hz1 : z1 = (nI (7 * n + 1)) := by rw [hz1]; exact nI_add (7 * n) 1
  subst hz1
  refine va_sld S.1 S.2.1 hXs hbl (Nat.not_le.mpr hbl) hMx.2.1 (vp_in_nI (n := 7 * n + 1) (by omega) (by omega)) dL_law_596 ?_
  refine lv_topi (fun z2 hz2 => ?_)
  have hz2 : z2 = (xs (7 * n + 1)) := by rw [hz2]; exact congrArg xs (cl_nI (by omega))
  subst hz2
  refine lv_aload_n hx hb dL_law_597 rfl (lv_at hl 3 rfl) ?_
  refine lv_iload_n hx hb dL_law_598 rfl (lv_at hl 0 rfl) ?_
  refine lv_iconst (v := 2) hx hb dL_law_599 (by decide) ?_
  refine lv_iadd hx hb dL_law_600 ?_
  refine lv_topi (fun z3 hz3 => ?_)
  have hz3 : z3 = (nI (7 * n + 2)) := by rw [hz3]; exact nI_add (7 * n) 2
  subst hz3
  refine va_sld S.1 S.2.1 hXs hbl (Nat.not_le.mpr hbl) hMx.2.1 (vp_in_nI (n := 7 * n + 2) (by omega) (by omega)) dL_law_601 ?_
  refine lv_topi (fun z4 hz4 => ?_)
  have hz4 : z4 = (xs (7 * n + 2)) := by rw [hz4]; exact congrArg xs (cl_nI (by omega))
  subst hz4
  refine lv_i2l hx hb dL_law_602 rfl ?_
  refine lv_bipush (v := 32) hx hb dL_law_603 (by decide) ?_
  refine lv_lshl hx hb dL_law_605 rfl ?_
  refine lv_aload_n hx hb dL_law_606 rfl (lv_at hl 3 rfl) ?_
  refine lv_iload_n hx hb dL_law_607 rfl (lv_at hl 0 rfl) ?_
  refine lv_iconst (v := 3) hx hb dL_law_608 (by decide) ?_
  refine lv_iadd hx hb dL_law_609 ?_
  refine lv_topi (fun z5 hz5 => ?_)
  have hz5 : z5 = (nI (7 * n + 3)) := by rw [hz5]; exact nI_add (7 * n) 3
  subst hz5
  refine va_sld S.1 S.2.1 hXs hbl (Nat.not_le.mpr hbl) hMx.2.1 (vp_in_nI (n := 7 * n + 3) (by omega) (by omega)) dL_law_610 ?_
  refine lv_topi (fun z6 hz6 => ?_)
  have hz6 : z6 = (xs (7 * n + 3)) := by rw [hz6]; exact congrArg xs (cl_nI (by omega))
  subst hz6
  refine lv_i2l hx hb dL_law_611 rfl ?_
  refine lv_ldc2 hx hb hown (hts _ w_3_86) dL_law_612 ?_
  refine lv_land hx hb dL_law_615 ?_
  refine lv_lor hx hb dL_law_616 ?_
  refine mc_i hMx (rVm (rest := []) S hK hMx cI4 (XS.c0 hX) rfl (c_X4_make l D cT hX hI (show n < 512 by omega) (xs (7 * n + 1)) (((Int32.toInt64 (xs (7 * n + 2))) <<< (Int32.toInt64 32 &&& 63)) ||| ((Int32.toInt64 (xs (7 * n + 3))) &&& 4294967295)) H.size) sm_X4_make w_1_189 w_1_187 ⟨Nat.le_of_ble_eq_true rfl, Nat.le_of_ble_eq_true rfl⟩ ⟨rfl, rfl⟩ rfl hl.1 rfl (Nat.le_of_ble_eq_true rfl) dL_law_617 ⟨by show 100 + 2 * n + 0 ≤ 600000; omega, by show 20000 + 16 * n + 0 ≤ 7302250; omega⟩) (fun r1 Mx1 H1 locs1 hp1 hMx1 hz1 hk1 hB1 => ?_)
  have hMr1 := hMr.other hd hk1
  have hd1 := dis.next hMr hd hB1
  have hMr : HM D (A0 s) Mr s.heap H1 locs1 := ⟨hMx1.1, hMx1.2.1, hMr1⟩
  refine lv_aload_n hx hb dL_law_620 rfl (lv_at hl 1 rfl) ?_
  refine lv_aload_n hx hb dL_law_621 rfl (lv_at hl 3 rfl) ?_
  refine lv_iload_n hx hb dL_law_622 rfl (lv_at hl 0 rfl) ?_
  refine lv_iconst (v := 1) hx hb dL_law_623 (by decide) ?_
  refine lv_iadd hx hb dL_law_624 ?_
  refine lv_topi (fun z7 hz7 => ?_)
  have hz7 : z7 = (nI (7 * n + 1)) := by rw [hz7]; exact nI_add (7 * n) 1
  subst hz7
  refine va_sld S.1 S.2.1 hXs hbl (Nat.not_le.mpr hbl) hMr.2.1 (vp_in_nI (n := 7 * n + 1) (by omega) (by omega)) dL_law_625 ?_
  refine lv_topi (fun z8 hz8 => ?_)
  have hz8 : z8 = (xs (7 * n + 1)) := by rw [hz8]; exact congrArg xs (cl_nI (by omega))
  subst hz8
  refine lv_aload_n hx hb dL_law_626 rfl (lv_at hl 3 rfl) ?_
  refine lv_iload_n hx hb dL_law_627 rfl (lv_at hl 0 rfl) ?_
  refine lv_iconst (v := 2) hx hb dL_law_628 (by decide) ?_
  refine lv_iadd hx hb dL_law_629 ?_
  refine lv_topi (fun z9 hz9 => ?_)
  have hz9 : z9 = (nI (7 * n + 2)) := by rw [hz9]; exact nI_add (7 * n) 2
  subst hz9
  refine va_sld S.1 S.2.1 hXs hbl (Nat.not_le.mpr hbl) hMr.2.1 (vp_in_nI (n := 7 * n + 2) (by omega) (by omega)) dL_law_630 ?_
  refine lv_topi (fun z10 hz10 => ?_)
  have hz10 : z10 = (xs (7 * n + 2)) := by rw [hz10]; exact congrArg xs (cl_nI (by omega))
  subst hz10
  refine lv_i2l hx hb dL_law_631 rfl ?_
  refine lv_bipush (v := 32) hx hb dL_law_632 (by decide) ?_
  refine lv_lshl hx hb dL_law_634 rfl ?_
  refine lv_aload_n hx hb dL_law_635 rfl (lv_at hl 3 rfl) ?_
  refine lv_iload_n hx hb dL_law_636 rfl (lv_at hl 0 rfl) ?_
  refine lv_iconst (v := 3) hx hb dL_law_637 (by decide) ?_
  refine lv_iadd hx hb dL_law_638 ?_
  refine lv_topi (fun z11 hz11 => ?_)
  have hz11 : z11 = (nI (7 * n + 3)) := by rw [hz11]; exact nI_add (7 * n) 3
  subst hz11
  refine va_sld S.1 S.2.1 hXs hbl (Nat.not_le.mpr hbl) hMr.2.1 (vp_in_nI (n := 7 * n + 3) (by omega) (by omega)) dL_law_639 ?_
  refine lv_topi (fun z12 hz12 => ?_)
  have hz12 : z12 = (xs (7 * n + 3)) := by rw [hz12]; exact congrArg xs (cl_nI (by omega))
  subst hz12
  refine lv_i2l hx hb dL_law_640 rfl ?_
  refine lv_ldc2 hx hb hown (hts _ w_3_86) dL_law_641 ?_
  refine lv_land hx hb dL_law_644 ?_
  refine lv_lor hx hb dL_law_645 ?_
  refine mc_i hMr (rVm (rest := [.int r1]) S hK hMr cI5 (RS.c0 hR) rfl (c_X5_make l D cT hR hI (show n ≤ 512 by omega) (xs (7 * n + 1)) (((Int32.toInt64 (xs (7 * n + 2))) <<< (Int32.toInt64 32 &&& 63)) ||| ((Int32.toInt64 (xs (7 * n + 3))) &&& 4294967295)) H1.size) sm_X5_make w_3_15 w_3_13 ⟨Nat.le_of_ble_eq_true rfl, Nat.le_of_ble_eq_true rfl⟩ ⟨rfl, rfl⟩ rfl hl.1 rfl (Nat.le_of_ble_eq_true rfl) dL_law_646 ⟨by show 100 + 2 * n + 0 + 0 ≤ 600000; omega, by show 20000 + 16 * n + 0 + 0 ≤ 7302250; omega⟩) (fun r2 Mr1 H2 locs2 hp2 hMr2 hz2 hk2 hB2 => ?_)
  have hMx2 := hMx1.hp.other hd1.symm hk2
  have hd2 := (dis.next hMx1.hp hd1.symm hB2).symm
  obtain ⟨e1, ad1, had, hX1⟩ := hp1
  obtain ⟨e2, hR1⟩ := hp2
  refine lv_icmp_eq (tgt := 1080) hx hb dL_law_649 (by decide) (fun _ => ?_) (fun w => absurd (e1.trans e2.symm) w)
  exact nx ad1 Mx1 Mr1 H2 locs2 _ _ _ had hX1 hR1 (INV.make (xs (7 * n + 1)) (((Int32.toInt64 (xs (7 * n + 2))) <<< (Int32.toInt64 32 &&& 63)) ||| ((Int32.toInt64 (xs (7 * n + 3))) &&& 4294967295)) hI) hMr2 hMx2 hd2 (by omega) (by omega) ls hl
set_option maxHeartbeats 4000000 in
set_option maxRecDepth 100000 in
theorem law_rack (S : CallFix p m c code 4 s #[Value.ref b] lw_all RL) (hK : KK D cT s) (hXs : va_X b L xs s s.heap) (hbl : b < s.heap.size) (hL : L ≤ 3584) (h7 : 7 * n + 7 ≤ L) (hX : XS cT fu fd ad Mx z) (hR : RS cT a Mr z) (hI : INV n z) (hMx : HM D (A0 s) Mx s.heap H locs) (hMr : HP D (A0 s) Mr H) (hd : dis Mx Mr) (nx : ∀ (ad1 : Nat → Nat → Nat) (Mx1 Mr1 : hmp) (H1 : Heap) (locs1 : List Loc) (z1 : SG) (k1 k2 : Nat), ad1 0 0 = ad 0 0 → XS cT fu fd ad1 Mx1 z1 → RS cT a Mr1 z1 → INV (n + 1) z1 → HM D (A0 s) Mr1 s.heap H1 locs1 → HP D (A0 s) Mx1 H1 → dis Mx1 Mr1 → k1 ≤ 100 + 2 * (n + 1) → k2 ≤ 20000 + 16 * (n + 1) → ∀ ls, lv_has ls 4 [(3, .int (nI (7 * n))), (2, .ref (a 0)), (1, .ref (ad 0 0)), (0, .ref b)] → W p l e room_1 s m #[Value.ref b] below meth c H1 locs1 k1 k2 Q (F0 m 1080 ls [])) : ∀ ls, lv_has ls 4 [(3, .int (nI (7 * n))), (2, .ref (a 0)), (1, .ref (ad 0 0)), (0, .ref b)] → W p l e room_1 s m #[Value.ref b] below meth c H locs (100 + 2 * n) (20000 + 16 * n) Q (F0 m 654 ls []) := by
  intro ls hl
  have hx := S.1
  have hb := S.2.1
  have hml := S.2.2.1
  have hown := S.2.2.2.1
  have hts := S.2.2.2.2
  refine lv_aload_n hx hb dL_law_654 rfl (lv_at hl 2 rfl) ?_
  refine lv_aload_n hx hb dL_law_655 rfl (lv_at hl 3 rfl) ?_
  refine lv_iload_n hx hb dL_law_656 rfl (lv_at hl 0 rfl) ?_
  refine lv_iconst (v := 1) hx hb dL_law_657 (by decide) ?_
  refine lv_iadd hx hb dL_law_658 ?_
  refine lv_topi (fun z1 hz1 => ?_)
  have hz1 : z1 = (nI (7 * n + 1)) := by rw [hz1]; exact nI_add (7 * n) 1
  subst hz1
  refine va_sld S.1 S.2.1 hXs hbl (Nat.not_le.mpr hbl) hMx.2.1 (vp_in_nI (n := 7 * n + 1) (by omega) (by omega)) dL_law_659 ?_
  refine lv_topi (fun z2 hz2 => ?_)
  have hz2 : z2 = (xs (7 * n + 1)) := by rw [hz2]; exact congrArg xs (cl_nI (by omega))
  subst hz2
  refine lv_aload_n hx hb dL_law_660 rfl (lv_at hl 3 rfl) ?_
  refine lv_iload_n hx hb dL_law_661 rfl (lv_at hl 0 rfl) ?_
  refine lv_iconst (v := 2) hx hb dL_law_662 (by decide) ?_
  refine lv_iadd hx hb dL_law_663 ?_
  refine lv_topi (fun z3 hz3 => ?_)
  have hz3 : z3 = (nI (7 * n + 2)) := by rw [hz3]; exact nI_add (7 * n) 2
  subst hz3
  refine va_sld S.1 S.2.1 hXs hbl (Nat.not_le.mpr hbl) hMx.2.1 (vp_in_nI (n := 7 * n + 2) (by omega) (by omega)) dL_law_664 ?_
  refine lv_topi (fun z4 hz4 => ?_)
  have hz4 : z4 = (xs (7 * n + 2)) := by rw [hz4]; exact congrArg xs (cl_nI (by omega))
  subst hz4
  refine mc_i hMx (rVm (rest := []) S hK hMx cI4 (XS.c0 hX) rfl (c_X4_rack l D cT hX hI (show n < 512 by omega) (xs (7 * n + 1)) (xs (7 * n + 2)) H.size) sm_X4_rack w_1_212 w_1_210 ⟨Nat.le_of_ble_eq_true rfl, Nat.le_of_ble_eq_true rfl⟩ ⟨rfl, rfl⟩ rfl hl.1 rfl (Nat.le_of_ble_eq_true rfl) dL_law_665 ⟨by show 100 + 2 * n + 2 ≤ 600000; omega, by show 20000 + 16 * n + 5 ≤ 7302250; omega⟩) (fun r1 Mx1 H1 locs1 hp1 hMx1 hz1 hk1 hB1 => ?_)
  have hMr1 := hMr.other hd hk1
  have hd1 := dis.next hMr hd hB1
  have hMr : HM D (A0 s) Mr s.heap H1 locs1 := ⟨hMx1.1, hMx1.2.1, hMr1⟩
  refine lv_aload_n hx hb dL_law_668 rfl (lv_at hl 1 rfl) ?_
  refine lv_aload_n hx hb dL_law_669 rfl (lv_at hl 3 rfl) ?_
  refine lv_iload_n hx hb dL_law_670 rfl (lv_at hl 0 rfl) ?_
  refine lv_iconst (v := 1) hx hb dL_law_671 (by decide) ?_
  refine lv_iadd hx hb dL_law_672 ?_
  refine lv_topi (fun z5 hz5 => ?_)
  have hz5 : z5 = (nI (7 * n + 1)) := by rw [hz5]; exact nI_add (7 * n) 1
  subst hz5
  refine va_sld S.1 S.2.1 hXs hbl (Nat.not_le.mpr hbl) hMr.2.1 (vp_in_nI (n := 7 * n + 1) (by omega) (by omega)) dL_law_673 ?_
  refine lv_topi (fun z6 hz6 => ?_)
  have hz6 : z6 = (xs (7 * n + 1)) := by rw [hz6]; exact congrArg xs (cl_nI (by omega))
  subst hz6
  refine lv_aload_n hx hb dL_law_674 rfl (lv_at hl 3 rfl) ?_
  refine lv_iload_n hx hb dL_law_675 rfl (lv_at hl 0 rfl) ?_
  refine lv_iconst (v := 2) hx hb dL_law_676 (by decide) ?_
  refine lv_iadd hx hb dL_law_677 ?_
  refine lv_topi (fun z7 hz7 => ?_)
  have hz7 : z7 = (nI (7 * n + 2)) := by rw [hz7]; exact nI_add (7 * n) 2
  subst hz7
  refine va_sld S.1 S.2.1 hXs hbl (Nat.not_le.mpr hbl) hMr.2.1 (vp_in_nI (n := 7 * n + 2) (by omega) (by omega)) dL_law_678 ?_
  refine lv_topi (fun z8 hz8 => ?_)
  have hz8 : z8 = (xs (7 * n + 2)) := by rw [hz8]; exact congrArg xs (cl_nI (by omega))
  subst hz8
  refine mc_i hMr (rVm (rest := [.int r1]) S hK hMr cI5 (RS.c0 hR) rfl (c_X5_rack l D cT hR hI (show n ≤ 512 by omega) (xs (7 * n + 1)) (xs (7 * n + 2)) H1.size) sm_X5_rack w_3_33 w_3_31 ⟨Nat.le_of_ble_eq_true rfl, Nat.le_of_ble_eq_true rfl⟩ ⟨rfl, rfl⟩ rfl hl.1 rfl (Nat.le_of_ble_eq_true rfl) dL_law_679 ⟨by show 100 + 2 * n + 2 + 0 ≤ 600000; omega, by show 20000 + 16 * n + 5 + 0 ≤ 7302250; omega⟩) (fun r2 Mr1 H2 locs2 hp2 hMr2 hz2 hk2 hB2 => ?_)
  have hMx2 := hMx1.hp.other hd1.symm hk2
  have hd2 := (dis.next hMx1.hp hd1.symm hB2).symm
  obtain ⟨e1, ad1, had, hX1⟩ := hp1
  obtain ⟨e2, hR1⟩ := hp2
  refine lv_icmp_eq (tgt := 1080) hx hb dL_law_682 (by decide) (fun _ => ?_) (fun w => absurd (e1.trans e2.symm) w)
  exact nx ad1 Mx1 Mr1 H2 locs2 _ _ _ had hX1 hR1 (INV.rack (xs (7 * n + 1)) (xs (7 * n + 2)) hI) hMr2 hMx2 hd2 (by omega) (by omega) ls hl
set_option maxHeartbeats 4000000 in
set_option maxRecDepth 100000 in
theorem law_hang (S : CallFix p m c code 4 s #[Value.ref b] lw_all RL) (hK : KK D cT s) (hXs : va_X b L xs s s.heap) (hbl : b < s.heap.size) (hL : L ≤ 3584) (h7 : 7 * n + 7 ≤ L) (hX : XS cT fu fd ad Mx z) (hR : RS cT a Mr z) (hI : INV n z) (hMx : HM D (A0 s) Mx s.heap H locs) (hMr : HP D (A0 s) Mr H) (hd : dis Mx Mr) (nx : ∀ (ad1 : Nat → Nat → Nat) (Mx1 Mr1 : hmp) (H1 : Heap) (locs1 : List Loc) (z1 : SG) (k1 k2 : Nat), ad1 0 0 = ad 0 0 → XS cT fu fd ad1 Mx1 z1 → RS cT a Mr1 z1 → INV (n + 1) z1 → HM D (A0 s) Mr1 s.heap H1 locs1 → HP D (A0 s) Mx1 H1 → dis Mx1 Mr1 → k1 ≤ 100 + 2 * (n + 1) → k2 ≤ 20000 + 16 * (n + 1) → ∀ ls, lv_has ls 4 [(3, .int (nI (7 * n))), (2, .ref (a 0)), (1, .ref (ad 0 0)), (0, .ref b)] → W p l e room_1 s m #[Value.ref b] below meth c H1 locs1 k1 k2 Q (F0 m 1080 ls [])) : ∀ ls, lv_has ls 4 [(3, .int (nI (7 * n))), (2, .ref (a 0)), (1, .ref (ad 0 0)), (0, .ref b)] → W p l e room_1 s m #[Value.ref b] below meth c H locs (100 + 2 * n) (20000 + 16 * n) Q (F0 m 687 ls []) := by
  intro ls hl
  have hx := S.1
  have hb := S.2.1
  have hml := S.2.2.1
  have hown := S.2.2.2.1
  have hts := S.2.2.2.2
  refine lv_aload_n hx hb dL_law_687 rfl (lv_at hl 2 rfl) ?_
  refine lv_aload_n hx hb dL_law_688 rfl (lv_at hl 3 rfl) ?_
  refine lv_iload_n hx hb dL_law_689 rfl (lv_at hl 0 rfl) ?_
  refine lv_iconst (v := 1) hx hb dL_law_690 (by decide) ?_
  refine lv_iadd hx hb dL_law_691 ?_
  refine lv_topi (fun z1 hz1 => ?_)
  have hz1 : z1 = (nI (7 * n + 1)) := by rw [hz1]; exact nI_add (7 * n) 1
  subst hz1
  refine va_sld S.1 S.2.1 hXs hbl (Nat.not_le.mpr hbl) hMx.2.1 (vp_in_nI (n := 7 * n + 1) (by omega) (by omega)) dL_law_692 ?_
  refine lv_topi (fun z2 hz2 => ?_)
  have hz2 : z2 = (xs (7 * n + 1)) := by rw [hz2]; exact congrArg xs (cl_nI (by omega))
  subst hz2
  refine lv_aload_n hx hb dL_law_693 rfl (lv_at hl 3 rfl) ?_
  refine lv_iload_n hx hb dL_law_694 rfl (lv_at hl 0 rfl) ?_
  refine lv_iconst (v := 2) hx hb dL_law_695 (by decide) ?_
  refine lv_iadd hx hb dL_law_696 ?_
  refine lv_topi (fun z3 hz3 => ?_)
  have hz3 : z3 = (nI (7 * n + 2)) := by rw [hz3]; exact nI_add (7 * n) 2
  subst hz3
  refine va_sld S.1 S.2.1 hXs hbl (Nat.not_le.mpr hbl) hMx.2.1 (vp_in_nI (n := 7 * n + 2) (by omega) (by omega)) dL_law_697 ?_
  refine lv_topi (fun z4 hz4 => ?_)
  have hz4 : z4 = (xs (7 * n + 2)) := by rw [hz4]; exact congrArg xs (cl_nI (by omega))
  subst hz4
  refine lv_aload_n hx hb dL_law_698 rfl (lv_at hl 3 rfl) ?_
  refine lv_iload_n hx hb dL_law_699 rfl (lv_at hl 0 rfl) ?_
  refine lv_iconst (v := 3) hx hb dL_law_700 (by decide) ?_
  refine lv_iadd hx hb dL_law_701 ?_
  refine lv_topi (fun z5 hz5 => ?_)
  have hz5 : z5 = (nI (7 * n + 3)) := by rw [hz5]; exact nI_add (7 * n) 3
  subst hz5
  refine va_sld S.1 S.2.1 hXs hbl (Nat.not_le.mpr hbl) hMx.2.1 (vp_in_nI (n := 7 * n + 3) (by omega) (by omega)) dL_law_702 ?_
  refine lv_topi (fun z6 hz6 => ?_)
  have hz6 : z6 = (xs (7 * n + 3)) := by rw [hz6]; exact congrArg xs (cl_nI (by omega))
  subst hz6
  refine mc_i hMx (rVm (rest := []) S hK hMx cI4 (XS.c0 hX) rfl (c_X4_hang l D cT hX hI (show n < 512 by omega) (xs (7 * n + 1)) (xs (7 * n + 2)) (xs (7 * n + 3)) H.size) sm_X4_hang w_1_231 w_1_229 ⟨Nat.le_of_ble_eq_true rfl, Nat.le_of_ble_eq_true rfl⟩ ⟨rfl, rfl⟩ rfl hl.1 rfl (Nat.le_of_ble_eq_true rfl) dL_law_703 ⟨by show 100 + 2 * n + 0 ≤ 600000; omega, by show 20000 + 16 * n + 0 ≤ 7302250; omega⟩) (fun r1 Mx1 H1 locs1 hp1 hMx1 hz1 hk1 hB1 => ?_)
  have hMr1 := hMr.other hd hk1
  have hd1 := dis.next hMr hd hB1
  have hMr : HM D (A0 s) Mr s.heap H1 locs1 := ⟨hMx1.1, hMx1.2.1, hMr1⟩
  refine lv_aload_n hx hb dL_law_706 rfl (lv_at hl 1 rfl) ?_
  refine lv_aload_n hx hb dL_law_707 rfl (lv_at hl 3 rfl) ?_
  refine lv_iload_n hx hb dL_law_708 rfl (lv_at hl 0 rfl) ?_
  refine lv_iconst (v := 1) hx hb dL_law_709 (by decide) ?_
  refine lv_iadd hx hb dL_law_710 ?_
  refine lv_topi (fun z7 hz7 => ?_)
  have hz7 : z7 = (nI (7 * n + 1)) := by rw [hz7]; exact nI_add (7 * n) 1
  subst hz7
  refine va_sld S.1 S.2.1 hXs hbl (Nat.not_le.mpr hbl) hMr.2.1 (vp_in_nI (n := 7 * n + 1) (by omega) (by omega)) dL_law_711 ?_
  refine lv_topi (fun z8 hz8 => ?_)
  have hz8 : z8 = (xs (7 * n + 1)) := by rw [hz8]; exact congrArg xs (cl_nI (by omega))
  subst hz8
  refine lv_aload_n hx hb dL_law_712 rfl (lv_at hl 3 rfl) ?_
  refine lv_iload_n hx hb dL_law_713 rfl (lv_at hl 0 rfl) ?_
  refine lv_iconst (v := 2) hx hb dL_law_714 (by decide) ?_
  refine lv_iadd hx hb dL_law_715 ?_
  refine lv_topi (fun z9 hz9 => ?_)
  have hz9 : z9 = (nI (7 * n + 2)) := by rw [hz9]; exact nI_add (7 * n) 2
  subst hz9
  refine va_sld S.1 S.2.1 hXs hbl (Nat.not_le.mpr hbl) hMr.2.1 (vp_in_nI (n := 7 * n + 2) (by omega) (by omega)) dL_law_716 ?_
  refine lv_topi (fun z10 hz10 => ?_)
  have hz10 : z10 = (xs (7 * n + 2)) := by rw [hz10]; exact congrArg xs (cl_nI (by omega))
  subst hz10
  refine lv_aload_n hx hb dL_law_717 rfl (lv_at hl 3 rfl) ?_
  refine lv_iload_n hx hb dL_law_718 rfl (lv_at hl 0 rfl) ?_
  refine lv_iconst (v := 3) hx hb dL_law_719 (by decide) ?_
  refine lv_iadd hx hb dL_law_720 ?_
  refine lv_topi (fun z11 hz11 => ?_)
  have hz11 : z11 = (nI (7 * n + 3)) := by rw [hz11]; exact nI_add (7 * n) 3
  subst hz11
  refine va_sld S.1 S.2.1 hXs hbl (Nat.not_le.mpr hbl) hMr.2.1 (vp_in_nI (n := 7 * n + 3) (by omega) (by omega)) dL_law_721 ?_
  refine lv_topi (fun z12 hz12 => ?_)
  have hz12 : z12 = (xs (7 * n + 3)) := by rw [hz12]; exact congrArg xs (cl_nI (by omega))
  subst hz12
  refine mc_i hMr (rVm (rest := [.int r1]) S hK hMr cI5 (RS.c0 hR) rfl (c_X5_hang l D cT hR hI (show n ≤ 512 by omega) (xs (7 * n + 1)) (xs (7 * n + 2)) (xs (7 * n + 3)) H1.size) sm_X5_hang w_3_37 w_3_35 ⟨Nat.le_of_ble_eq_true rfl, Nat.le_of_ble_eq_true rfl⟩ ⟨rfl, rfl⟩ rfl hl.1 rfl (Nat.le_of_ble_eq_true rfl) dL_law_722 ⟨by show 100 + 2 * n + 0 + 0 ≤ 600000; omega, by show 20000 + 16 * n + 0 + 0 ≤ 7302250; omega⟩) (fun r2 Mr1 H2 locs2 hp2 hMr2 hz2 hk2 hB2 => ?_)
  have hMx2 := hMx1.hp.other hd1.symm hk2
  have hd2 := (dis.next hMx1.hp hd1.symm hB2).symm
  obtain ⟨e1, ad1, had, hX1⟩ := hp1
  obtain ⟨e2, hR1⟩ := hp2
  refine lv_icmp_eq (tgt := 1080) hx hb dL_law_725 (by decide) (fun _ => ?_) (fun w => absurd (e1.trans e2.symm) w)
  exact nx ad1 Mx1 Mr1 H2 locs2 _ _ _ had hX1 hR1 (INV.hang (xs (7 * n + 1)) (xs (7 * n + 2)) (xs (7 * n + 3)) hI) hMr2 hMx2 hd2 (by omega) (by omega) ls hl
set_option maxHeartbeats 4000000 in
set_option maxRecDepth 100000 in
theorem law_take (S : CallFix p m c code 4 s #[Value.ref b] lw_all RL) (hK : KK D cT s) (hXs : va_X b L xs s s.heap) (hbl : b < s.heap.size) (hL : L ≤ 3584) (h7 : 7 * n + 7 ≤ L) (hX : XS cT fu fd ad Mx z) (hR : RS cT a Mr z) (hI : INV n z) (hMx : HM D (A0 s) Mx s.heap H locs) (hMr : HP D (A0 s) Mr H) (hd : dis Mx Mr) (nx : ∀ (ad1 : Nat → Nat → Nat) (Mx1 Mr1 : hmp) (H1 : Heap) (locs1 : List Loc) (z1 : SG) (k1 k2 : Nat), ad1 0 0 = ad 0 0 → XS cT fu fd ad1 Mx1 z1 → RS cT a Mr1 z1 → INV (n + 1) z1 → HM D (A0 s) Mr1 s.heap H1 locs1 → HP D (A0 s) Mx1 H1 → dis Mx1 Mr1 → k1 ≤ 100 + 2 * (n + 1) → k2 ≤ 20000 + 16 * (n + 1) → ∀ ls, lv_has ls 4 [(3, .int (nI (7 * n))), (2, .ref (a 0)), (1, .ref (ad 0 0)), (0, .ref b)] → W p l e room_1 s m #[Value.ref b] below meth c H1 locs1 k1 k2 Q (F0 m 1080 ls [])) : ∀ ls, lv_has ls 4 [(3, .int (nI (7 * n))), (2, .ref (a 0)), (1, .ref (ad 0 0)), (0, .ref b)] → W p l e room_1 s m #[Value.ref b] below meth c H locs (100 + 2 * n) (20000 + 16 * n) Q (F0 m 730 ls []) := by
  intro ls hl
  have hx := S.1
  have hb := S.2.1
  have hml := S.2.2.1
  have hown := S.2.2.2.1
  have hts := S.2.2.2.2
  refine lv_aload_n hx hb dL_law_730 rfl (lv_at hl 2 rfl) ?_
  refine lv_aload_n hx hb dL_law_731 rfl (lv_at hl 3 rfl) ?_
  refine lv_iload_n hx hb dL_law_732 rfl (lv_at hl 0 rfl) ?_
  refine lv_iconst (v := 1) hx hb dL_law_733 (by decide) ?_
  refine lv_iadd hx hb dL_law_734 ?_
  refine lv_topi (fun z1 hz1 => ?_)
  have hz1 : z1 = (nI (7 * n + 1)) := by rw [hz1]; exact nI_add (7 * n) 1
  subst hz1
  refine va_sld S.1 S.2.1 hXs hbl (Nat.not_le.mpr hbl) hMx.2.1 (vp_in_nI (n := 7 * n + 1) (by omega) (by omega)) dL_law_735 ?_
  refine lv_topi (fun z2 hz2 => ?_)
  have hz2 : z2 = (xs (7 * n + 1)) := by rw [hz2]; exact congrArg xs (cl_nI (by omega))
  subst hz2
  refine lv_aload_n hx hb dL_law_736 rfl (lv_at hl 3 rfl) ?_
  refine lv_iload_n hx hb dL_law_737 rfl (lv_at hl 0 rfl) ?_
  refine lv_iconst (v := 2) hx hb dL_law_738 (by decide) ?_
  refine lv_iadd hx hb dL_law_739 ?_
  refine lv_topi (fun z3 hz3 => ?_)
  have hz3 : z3 = (nI (7 * n + 2)) := by rw [hz3]; exact nI_add (7 * n) 2
  subst hz3
  refine va_sld S.1 S.2.1 hXs hbl (Nat.not_le.mpr hbl) hMx.2.1 (vp_in_nI (n := 7 * n + 2) (by omega) (by omega)) dL_law_740 ?_
  refine lv_topi (fun z4 hz4 => ?_)
  have hz4 : z4 = (xs (7 * n + 2)) := by rw [hz4]; exact congrArg xs (cl_nI (by omega))
  subst hz4
  refine lv_aload_n hx hb dL_law_741 rfl (lv_at hl 3 rfl) ?_
  refine lv_iload_n hx hb dL_law_742 rfl (lv_at hl 0 rfl) ?_
  refine lv_iconst (v := 3) hx hb dL_law_743 (by decide) ?_
  refine lv_iadd hx hb dL_law_744 ?_
  refine lv_topi (fun z5 hz5 => ?_)
  have hz5 : z5 = (nI (7 * n + 3)) := by rw [hz5]; exact nI_add (7 * n) 3
  subst hz5
  refine va_sld S.1 S.2.1 hXs hbl (Nat.not_le.mpr hbl) hMx.2.1 (vp_in_nI (n := 7 * n + 3) (by omega) (by omega)) dL_law_745 ?_
  refine lv_topi (fun z6 hz6 => ?_)
  have hz6 : z6 = (xs (7 * n + 3)) := by rw [hz6]; exact congrArg xs (cl_nI (by omega))
  subst hz6
  refine lv_aload_n hx hb dL_law_746 rfl (lv_at hl 3 rfl) ?_
  refine lv_iload_n hx hb dL_law_747 rfl (lv_at hl 0 rfl) ?_
  refine lv_iconst (v := 4) hx hb dL_law_748 (by decide) ?_
  refine lv_iadd hx hb dL_law_749 ?_
  refine lv_topi (fun z7 hz7 => ?_)
  have hz7 : z7 = (nI (7 * n + 4)) := by rw [hz7]; exact nI_add (7 * n) 4
  subst hz7
  refine va_sld S.1 S.2.1 hXs hbl (Nat.not_le.mpr hbl) hMx.2.1 (vp_in_nI (n := 7 * n + 4) (by omega) (by omega)) dL_law_750 ?_
  refine lv_topi (fun z8 hz8 => ?_)
  have hz8 : z8 = (xs (7 * n + 4)) := by rw [hz8]; exact congrArg xs (cl_nI (by omega))
  subst hz8
  refine mc_i hMx (rVm (rest := []) S hK hMx cI4 (XS.c0 hX) rfl (c_X4_take l D cT hX hI (show n < 512 by omega) (xs (7 * n + 1)) (xs (7 * n + 2)) (xs (7 * n + 3)) (xs (7 * n + 4)) H.size) sm_X4_take w_1_239 w_1_237 ⟨Nat.le_of_ble_eq_true rfl, Nat.le_of_ble_eq_true rfl⟩ ⟨rfl, rfl⟩ rfl hl.1 rfl (Nat.le_of_ble_eq_true rfl) dL_law_751 ⟨by show 100 + 2 * n + 0 ≤ 600000; omega, by show 20000 + 16 * n + 0 ≤ 7302250; omega⟩) (fun r1 Mx1 H1 locs1 hp1 hMx1 hz1 hk1 hB1 => ?_)
  have hMr1 := hMr.other hd hk1
  have hd1 := dis.next hMr hd hB1
  have hMr : HM D (A0 s) Mr s.heap H1 locs1 := ⟨hMx1.1, hMx1.2.1, hMr1⟩
  refine lv_aload_n hx hb dL_law_754 rfl (lv_at hl 1 rfl) ?_
  refine lv_aload_n hx hb dL_law_755 rfl (lv_at hl 3 rfl) ?_
  refine lv_iload_n hx hb dL_law_756 rfl (lv_at hl 0 rfl) ?_
  refine lv_iconst (v := 1) hx hb dL_law_757 (by decide) ?_
  refine lv_iadd hx hb dL_law_758 ?_
  refine lv_topi (fun z9 hz9 => ?_)
  have hz9 : z9 = (nI (7 * n + 1)) := by rw [hz9]; exact nI_add (7 * n) 1
  subst hz9
  refine va_sld S.1 S.2.1 hXs hbl (Nat.not_le.mpr hbl) hMr.2.1 (vp_in_nI (n := 7 * n + 1) (by omega) (by omega)) dL_law_759 ?_
  refine lv_topi (fun z10 hz10 => ?_)
  have hz10 : z10 = (xs (7 * n + 1)) := by rw [hz10]; exact congrArg xs (cl_nI (by omega))
  subst hz10
  refine lv_aload_n hx hb dL_law_760 rfl (lv_at hl 3 rfl) ?_
  refine lv_iload_n hx hb dL_law_761 rfl (lv_at hl 0 rfl) ?_
  refine lv_iconst (v := 2) hx hb dL_law_762 (by decide) ?_
  refine lv_iadd hx hb dL_law_763 ?_
  refine lv_topi (fun z11 hz11 => ?_)
  have hz11 : z11 = (nI (7 * n + 2)) := by rw [hz11]; exact nI_add (7 * n) 2
  subst hz11
  refine va_sld S.1 S.2.1 hXs hbl (Nat.not_le.mpr hbl) hMr.2.1 (vp_in_nI (n := 7 * n + 2) (by omega) (by omega)) dL_law_764 ?_
  refine lv_topi (fun z12 hz12 => ?_)
  have hz12 : z12 = (xs (7 * n + 2)) := by rw [hz12]; exact congrArg xs (cl_nI (by omega))
  subst hz12
  refine lv_aload_n hx hb dL_law_765 rfl (lv_at hl 3 rfl) ?_
  refine lv_iload_n hx hb dL_law_766 rfl (lv_at hl 0 rfl) ?_
  refine lv_iconst (v := 3) hx hb dL_law_767 (by decide) ?_
  refine lv_iadd hx hb dL_law_768 ?_
  refine lv_topi (fun z13 hz13 => ?_)
  have hz13 : z13 = (nI (7 * n + 3)) := by rw [hz13]; exact nI_add (7 * n) 3
  subst hz13
  refine va_sld S.1 S.2.1 hXs hbl (Nat.not_le.mpr hbl) hMr.2.1 (vp_in_nI (n := 7 * n + 3) (by omega) (by omega)) dL_law_769 ?_
  refine lv_topi (fun z14 hz14 => ?_)
  have hz14 : z14 = (xs (7 * n + 3)) := by rw [hz14]; exact congrArg xs (cl_nI (by omega))
  subst hz14
  refine lv_aload_n hx hb dL_law_770 rfl (lv_at hl 3 rfl) ?_
  refine lv_iload_n hx hb dL_law_771 rfl (lv_at hl 0 rfl) ?_
  refine lv_iconst (v := 4) hx hb dL_law_772 (by decide) ?_
  refine lv_iadd hx hb dL_law_773 ?_
  refine lv_topi (fun z15 hz15 => ?_)
  have hz15 : z15 = (nI (7 * n + 4)) := by rw [hz15]; exact nI_add (7 * n) 4
  subst hz15
  refine va_sld S.1 S.2.1 hXs hbl (Nat.not_le.mpr hbl) hMr.2.1 (vp_in_nI (n := 7 * n + 4) (by omega) (by omega)) dL_law_774 ?_
  refine lv_topi (fun z16 hz16 => ?_)
  have hz16 : z16 = (xs (7 * n + 4)) := by rw [hz16]; exact congrArg xs (cl_nI (by omega))
  subst hz16
  refine mc_i hMr (rVm (rest := [.int r1]) S hK hMr cI5 (RS.c0 hR) rfl (c_X5_take l D cT hR hI (show n ≤ 512 by omega) (xs (7 * n + 1)) (xs (7 * n + 2)) (xs (7 * n + 3)) (xs (7 * n + 4)) H1.size) sm_X5_take w_3_44 w_3_42 ⟨Nat.le_of_ble_eq_true rfl, Nat.le_of_ble_eq_true rfl⟩ ⟨rfl, rfl⟩ rfl hl.1 rfl (Nat.le_of_ble_eq_true rfl) dL_law_775 ⟨by show 100 + 2 * n + 0 + 0 ≤ 600000; omega, by show 20000 + 16 * n + 0 + 0 ≤ 7302250; omega⟩) (fun r2 Mr1 H2 locs2 hp2 hMr2 hz2 hk2 hB2 => ?_)
  have hMx2 := hMx1.hp.other hd1.symm hk2
  have hd2 := (dis.next hMx1.hp hd1.symm hB2).symm
  obtain ⟨e1, ad1, had, hX1⟩ := hp1
  obtain ⟨e2, hR1⟩ := hp2
  refine lv_icmp_eq (tgt := 1080) hx hb dL_law_778 (by decide) (fun _ => ?_) (fun w => absurd (e1.trans e2.symm) w)
  exact nx ad1 Mx1 Mr1 H2 locs2 _ _ _ had hX1 hR1 (INV.take (xs (7 * n + 1)) (xs (7 * n + 2)) (xs (7 * n + 3)) (xs (7 * n + 4)) hI) hMr2 hMx2 hd2 (by omega) (by omega) ls hl
set_option maxHeartbeats 4000000 in
set_option maxRecDepth 100000 in
theorem law_head (S : CallFix p m c code 4 s #[Value.ref b] lw_all RL) (hK : KK D cT s) (hXs : va_X b L xs s s.heap) (hbl : b < s.heap.size) (hL : L ≤ 3584) (h7 : 7 * n + 7 ≤ L) (hX : XS cT fu fd ad Mx z) (hR : RS cT a Mr z) (hI : INV n z) (hMx : HM D (A0 s) Mx s.heap H locs) (hMr : HP D (A0 s) Mr H) (hd : dis Mx Mr) (nx : ∀ (ad1 : Nat → Nat → Nat) (Mx1 Mr1 : hmp) (H1 : Heap) (locs1 : List Loc) (z1 : SG) (k1 k2 : Nat), ad1 0 0 = ad 0 0 → XS cT fu fd ad1 Mx1 z1 → RS cT a Mr1 z1 → INV (n + 1) z1 → HM D (A0 s) Mr1 s.heap H1 locs1 → HP D (A0 s) Mx1 H1 → dis Mx1 Mr1 → k1 ≤ 100 + 2 * (n + 1) → k2 ≤ 20000 + 16 * (n + 1) → ∀ ls, lv_has ls 4 [(3, .int (nI (7 * n))), (2, .ref (a 0)), (1, .ref (ad 0 0)), (0, .ref b)] → W p l e room_1 s m #[Value.ref b] below meth c H1 locs1 k1 k2 Q (F0 m 1080 ls [])) : ∀ ls, lv_has ls 4 [(3, .int (nI (7 * n))), (2, .ref (a 0)), (1, .ref (ad 0 0)), (0, .ref b)] → W p l e room_1 s m #[Value.ref b] below meth c H locs (100 + 2 * n) (20000 + 16 * n) Q (F0 m 783 ls []) := by
  intro ls hl
  have hx := S.1
  have hb := S.2.1
  have hml := S.2.2.1
  have hown := S.2.2.2.1
  have hts := S.2.2.2.2
  refine lv_aload_n hx hb dL_law_783 rfl (lv_at hl 2 rfl) ?_
  refine lv_aload_n hx hb dL_law_784 rfl (lv_at hl 3 rfl) ?_
  refine lv_iload_n hx hb dL_law_785 rfl (lv_at hl 0 rfl) ?_
  refine lv_iconst (v := 1) hx hb dL_law_786 (by decide) ?_
  refine lv_iadd hx hb dL_law_787 ?_
  refine lv_topi (fun z1 hz1 => ?_)
  have hz1 : z1 = (nI (7 * n + 1)) := by rw [hz1]; exact nI_add (7 * n) 1
  subst hz1
  refine va_sld S.1 S.2.1 hXs hbl (Nat.not_le.mpr hbl) hMx.2.1 (vp_in_nI (n := 7 * n + 1) (by omega) (by omega)) dL_law_788 ?_
  refine lv_topi (fun z2 hz2 => ?_)
  have hz2 : z2 = (xs (7 * n + 1)) := by rw [hz2]; exact congrArg xs (cl_nI (by omega))
  subst hz2
  refine lv_aload_n hx hb dL_law_789 rfl (lv_at hl 3 rfl) ?_
  refine lv_iload_n hx hb dL_law_790 rfl (lv_at hl 0 rfl) ?_
  refine lv_iconst (v := 2) hx hb dL_law_791 (by decide) ?_
  refine lv_iadd hx hb dL_law_792 ?_
  refine lv_topi (fun z3 hz3 => ?_)
  have hz3 : z3 = (nI (7 * n + 2)) := by rw [hz3]; exact nI_add (7 * n) 2
  subst hz3
  refine va_sld S.1 S.2.1 hXs hbl (Nat.not_le.mpr hbl) hMx.2.1 (vp_in_nI (n := 7 * n + 2) (by omega) (by omega)) dL_law_793 ?_
  refine lv_topi (fun z4 hz4 => ?_)
  have hz4 : z4 = (xs (7 * n + 2)) := by rw [hz4]; exact congrArg xs (cl_nI (by omega))
  subst hz4
  refine lv_aload_n hx hb dL_law_794 rfl (lv_at hl 3 rfl) ?_
  refine lv_iload_n hx hb dL_law_795 rfl (lv_at hl 0 rfl) ?_
  refine lv_iconst (v := 3) hx hb dL_law_796 (by decide) ?_
  refine lv_iadd hx hb dL_law_797 ?_
  refine lv_topi (fun z5 hz5 => ?_)
  have hz5 : z5 = (nI (7 * n + 3)) := by rw [hz5]; exact nI_add (7 * n) 3
  subst hz5
  refine va_sld S.1 S.2.1 hXs hbl (Nat.not_le.mpr hbl) hMx.2.1 (vp_in_nI (n := 7 * n + 3) (by omega) (by omega)) dL_law_798 ?_
  refine lv_topi (fun z6 hz6 => ?_)
  have hz6 : z6 = (xs (7 * n + 3)) := by rw [hz6]; exact congrArg xs (cl_nI (by omega))
  subst hz6
  refine lv_aload_n hx hb dL_law_799 rfl (lv_at hl 3 rfl) ?_
  refine lv_iload_n hx hb dL_law_800 rfl (lv_at hl 0 rfl) ?_
  refine lv_iconst (v := 4) hx hb dL_law_801 (by decide) ?_
  refine lv_iadd hx hb dL_law_802 ?_
  refine lv_topi (fun z7 hz7 => ?_)
  have hz7 : z7 = (nI (7 * n + 4)) := by rw [hz7]; exact nI_add (7 * n) 4
  subst hz7
  refine va_sld S.1 S.2.1 hXs hbl (Nat.not_le.mpr hbl) hMx.2.1 (vp_in_nI (n := 7 * n + 4) (by omega) (by omega)) dL_law_803 ?_
  refine lv_topi (fun z8 hz8 => ?_)
  have hz8 : z8 = (xs (7 * n + 4)) := by rw [hz8]; exact congrArg xs (cl_nI (by omega))
  subst hz8
  refine lv_aload_n hx hb dL_law_804 rfl (lv_at hl 3 rfl) ?_
  refine lv_iload_n hx hb dL_law_805 rfl (lv_at hl 0 rfl) ?_
  refine lv_iconst (v := 5) hx hb dL_law_806 (by decide) ?_
  refine lv_iadd hx hb dL_law_807 ?_
  refine lv_topi (fun z9 hz9 => ?_)
  have hz9 : z9 = (nI (7 * n + 5)) := by rw [hz9]; exact nI_add (7 * n) 5
  subst hz9
  refine va_sld S.1 S.2.1 hXs hbl (Nat.not_le.mpr hbl) hMx.2.1 (vp_in_nI (n := 7 * n + 5) (by omega) (by omega)) dL_law_808 ?_
  refine lv_topi (fun z10 hz10 => ?_)
  have hz10 : z10 = (xs (7 * n + 5)) := by rw [hz10]; exact congrArg xs (cl_nI (by omega))
  subst hz10
  refine lv_i2l hx hb dL_law_809 rfl ?_
  refine lv_bipush (v := 32) hx hb dL_law_810 (by decide) ?_
  refine lv_lshl hx hb dL_law_812 rfl ?_
  refine lv_aload_n hx hb dL_law_813 rfl (lv_at hl 3 rfl) ?_
  refine lv_iload_n hx hb dL_law_814 rfl (lv_at hl 0 rfl) ?_
  refine lv_bipush (v := 6) hx hb dL_law_815 (by decide) ?_
  refine lv_iadd hx hb dL_law_817 ?_
  refine lv_topi (fun z11 hz11 => ?_)
  have hz11 : z11 = (nI (7 * n + 6)) := by rw [hz11]; exact nI_add (7 * n) 6
  subst hz11
  refine va_sld S.1 S.2.1 hXs hbl (Nat.not_le.mpr hbl) hMx.2.1 (vp_in_nI (n := 7 * n + 6) (by omega) (by omega)) dL_law_818 ?_
  refine lv_topi (fun z12 hz12 => ?_)
  have hz12 : z12 = (xs (7 * n + 6)) := by rw [hz12]; exact congrArg xs (cl_nI (by omega))
  subst hz12
  refine lv_i2l hx hb dL_law_819 rfl ?_
  refine lv_ldc2 hx hb hown (hts _ w_3_86) dL_law_820 ?_
  refine lv_land hx hb dL_law_823 ?_
  refine lv_lor hx hb dL_law_824 ?_
  refine mc_i hMx (rVm (rest := []) S hK hMx cI4 (XS.c0 hX) rfl (c_X4_head l D cT hX hI (show n < 512 by omega) (xs (7 * n + 1)) (xs (7 * n + 2)) (xs (7 * n + 3)) (xs (7 * n + 4)) (((Int32.toInt64 (xs (7 * n + 5))) <<< (Int32.toInt64 32 &&& 63)) ||| ((Int32.toInt64 (xs (7 * n + 6))) &&& 4294967295)) H.size) sm_X4_head w_2_3 w_2_1 ⟨Nat.le_of_ble_eq_true rfl, Nat.le_of_ble_eq_true rfl⟩ ⟨rfl, rfl⟩ rfl hl.1 rfl (Nat.le_of_ble_eq_true rfl) dL_law_825 ⟨by show 100 + 2 * n + 1 ≤ 600000; omega, by show 20000 + 16 * n + 6 ≤ 7302250; omega⟩) (fun r1 Mx1 H1 locs1 hp1 hMx1 hz1 hk1 hB1 => ?_)
  have hMr1 := hMr.other hd hk1
  have hd1 := dis.next hMr hd hB1
  have hMr : HM D (A0 s) Mr s.heap H1 locs1 := ⟨hMx1.1, hMx1.2.1, hMr1⟩
  refine lv_aload_n hx hb dL_law_828 rfl (lv_at hl 1 rfl) ?_
  refine lv_aload_n hx hb dL_law_829 rfl (lv_at hl 3 rfl) ?_
  refine lv_iload_n hx hb dL_law_830 rfl (lv_at hl 0 rfl) ?_
  refine lv_iconst (v := 1) hx hb dL_law_831 (by decide) ?_
  refine lv_iadd hx hb dL_law_832 ?_
  refine lv_topi (fun z13 hz13 => ?_)
  have hz13 : z13 = (nI (7 * n + 1)) := by rw [hz13]; exact nI_add (7 * n) 1
  subst hz13
  refine va_sld S.1 S.2.1 hXs hbl (Nat.not_le.mpr hbl) hMr.2.1 (vp_in_nI (n := 7 * n + 1) (by omega) (by omega)) dL_law_833 ?_
  refine lv_topi (fun z14 hz14 => ?_)
  have hz14 : z14 = (xs (7 * n + 1)) := by rw [hz14]; exact congrArg xs (cl_nI (by omega))
  subst hz14
  refine lv_aload_n hx hb dL_law_834 rfl (lv_at hl 3 rfl) ?_
  refine lv_iload_n hx hb dL_law_835 rfl (lv_at hl 0 rfl) ?_
  refine lv_iconst (v := 2) hx hb dL_law_836 (by decide) ?_
  refine lv_iadd hx hb dL_law_837 ?_
  refine lv_topi (fun z15 hz15 => ?_)
  have hz15 : z15 = (nI (7 * n + 2)) := by rw [hz15]; exact nI_add (7 * n) 2
  subst hz15
  refine va_sld S.1 S.2.1 hXs hbl (Nat.not_le.mpr hbl) hMr.2.1 (vp_in_nI (n := 7 * n + 2) (by omega) (by omega)) dL_law_838 ?_
  refine lv_topi (fun z16 hz16 => ?_)
  have hz16 : z16 = (xs (7 * n + 2)) := by rw [hz16]; exact congrArg xs (cl_nI (by omega))
  subst hz16
  refine lv_aload_n hx hb dL_law_839 rfl (lv_at hl 3 rfl) ?_
  refine lv_iload_n hx hb dL_law_840 rfl (lv_at hl 0 rfl) ?_
  refine lv_iconst (v := 3) hx hb dL_law_841 (by decide) ?_
  refine lv_iadd hx hb dL_law_842 ?_
  refine lv_topi (fun z17 hz17 => ?_)
  have hz17 : z17 = (nI (7 * n + 3)) := by rw [hz17]; exact nI_add (7 * n) 3
  subst hz17
  refine va_sld S.1 S.2.1 hXs hbl (Nat.not_le.mpr hbl) hMr.2.1 (vp_in_nI (n := 7 * n + 3) (by omega) (by omega)) dL_law_843 ?_
  refine lv_topi (fun z18 hz18 => ?_)
  have hz18 : z18 = (xs (7 * n + 3)) := by rw [hz18]; exact congrArg xs (cl_nI (by omega))
  subst hz18
  refine lv_aload_n hx hb dL_law_844 rfl (lv_at hl 3 rfl) ?_
  refine lv_iload_n hx hb dL_law_845 rfl (lv_at hl 0 rfl) ?_
  refine lv_iconst (v := 4) hx hb dL_law_846 (by decide) ?_
  refine lv_iadd hx hb dL_law_847 ?_
  refine lv_topi (fun z19 hz19 => ?_)
  have hz19 : z19 = (nI (7 * n + 4)) := by rw [hz19]; exact nI_add (7 * n) 4
  subst hz19
  refine va_sld S.1 S.2.1 hXs hbl (Nat.not_le.mpr hbl) hMr.2.1 (vp_in_nI (n := 7 * n + 4) (by omega) (by omega)) dL_law_848 ?_
  refine lv_topi (fun z20 hz20 => ?_)
  have hz20 : z20 = (xs (7 * n + 4)) := by rw [hz20]; exact congrArg xs (cl_nI (by omega))
  subst hz20
  refine lv_aload_n hx hb dL_law_849 rfl (lv_at hl 3 rfl) ?_
  refine lv_iload_n hx hb dL_law_850 rfl (lv_at hl 0 rfl) ?_
  refine lv_iconst (v := 5) hx hb dL_law_851 (by decide) ?_
  refine lv_iadd hx hb dL_law_852 ?_
  refine lv_topi (fun z21 hz21 => ?_)
  have hz21 : z21 = (nI (7 * n + 5)) := by rw [hz21]; exact nI_add (7 * n) 5
  subst hz21
  refine va_sld S.1 S.2.1 hXs hbl (Nat.not_le.mpr hbl) hMr.2.1 (vp_in_nI (n := 7 * n + 5) (by omega) (by omega)) dL_law_853 ?_
  refine lv_topi (fun z22 hz22 => ?_)
  have hz22 : z22 = (xs (7 * n + 5)) := by rw [hz22]; exact congrArg xs (cl_nI (by omega))
  subst hz22
  refine lv_i2l hx hb dL_law_854 rfl ?_
  refine lv_bipush (v := 32) hx hb dL_law_855 (by decide) ?_
  refine lv_lshl hx hb dL_law_857 rfl ?_
  refine lv_aload_n hx hb dL_law_858 rfl (lv_at hl 3 rfl) ?_
  refine lv_iload_n hx hb dL_law_859 rfl (lv_at hl 0 rfl) ?_
  refine lv_bipush (v := 6) hx hb dL_law_860 (by decide) ?_
  refine lv_iadd hx hb dL_law_862 ?_
  refine lv_topi (fun z23 hz23 => ?_)
  have hz23 : z23 = (nI (7 * n + 6)) := by rw [hz23]; exact nI_add (7 * n) 6
  subst hz23
  refine va_sld S.1 S.2.1 hXs hbl (Nat.not_le.mpr hbl) hMr.2.1 (vp_in_nI (n := 7 * n + 6) (by omega) (by omega)) dL_law_863 ?_
  refine lv_topi (fun z24 hz24 => ?_)
  have hz24 : z24 = (xs (7 * n + 6)) := by rw [hz24]; exact congrArg xs (cl_nI (by omega))
  subst hz24
  refine lv_i2l hx hb dL_law_864 rfl ?_
  refine lv_ldc2 hx hb hown (hts _ w_3_86) dL_law_865 ?_
  refine lv_land hx hb dL_law_868 ?_
  refine lv_lor hx hb dL_law_869 ?_
  refine mc_i hMr (rVm (rest := [.int r1]) S hK hMr cI5 (RS.c0 hR) rfl (c_X5_head l D cT hR hI (show n ≤ 512 by omega) (xs (7 * n + 1)) (xs (7 * n + 2)) (xs (7 * n + 3)) (xs (7 * n + 4)) (((Int32.toInt64 (xs (7 * n + 5))) <<< (Int32.toInt64 32 &&& 63)) ||| ((Int32.toInt64 (xs (7 * n + 6))) &&& 4294967295)) H1.size) sm_X5_head w_3_48 w_3_46 ⟨Nat.le_of_ble_eq_true rfl, Nat.le_of_ble_eq_true rfl⟩ ⟨rfl, rfl⟩ rfl hl.1 rfl (Nat.le_of_ble_eq_true rfl) dL_law_870 ⟨by show 100 + 2 * n + 1 + 0 ≤ 600000; omega, by show 20000 + 16 * n + 6 + 0 ≤ 7302250; omega⟩) (fun r2 Mr1 H2 locs2 hp2 hMr2 hz2 hk2 hB2 => ?_)
  have hMx2 := hMx1.hp.other hd1.symm hk2
  have hd2 := (dis.next hMx1.hp hd1.symm hB2).symm
  obtain ⟨e1, ad1, had, hX1⟩ := hp1
  obtain ⟨e2, hR1⟩ := hp2
  refine lv_icmp_eq (tgt := 1080) hx hb dL_law_873 (by decide) (fun _ => ?_) (fun w => absurd (e1.trans e2.symm) w)
  exact nx ad1 Mx1 Mr1 H2 locs2 _ _ _ had hX1 hR1 (INV.head (xs (7 * n + 1)) (xs (7 * n + 2)) (xs (7 * n + 3)) (xs (7 * n + 4)) (((Int32.toInt64 (xs (7 * n + 5))) <<< (Int32.toInt64 32 &&& 63)) ||| ((Int32.toInt64 (xs (7 * n + 6))) &&& 4294967295)) hI) hMr2 hMx2 hd2 (by omega) (by omega) ls hl
set_option maxHeartbeats 4000000 in
set_option maxRecDepth 100000 in
theorem law_play (S : CallFix p m c code 4 s #[Value.ref b] lw_all RL) (hK : KK D cT s) (hXs : va_X b L xs s s.heap) (hbl : b < s.heap.size) (hL : L ≤ 3584) (h7 : 7 * n + 7 ≤ L) (hX : XS cT fu fd ad Mx z) (hR : RS cT a Mr z) (hI : INV n z) (hMx : HM D (A0 s) Mx s.heap H locs) (hMr : HP D (A0 s) Mr H) (hd : dis Mx Mr) (nx : ∀ (ad1 : Nat → Nat → Nat) (Mx1 Mr1 : hmp) (H1 : Heap) (locs1 : List Loc) (z1 : SG) (k1 k2 : Nat), ad1 0 0 = ad 0 0 → XS cT fu fd ad1 Mx1 z1 → RS cT a Mr1 z1 → INV (n + 1) z1 → HM D (A0 s) Mr1 s.heap H1 locs1 → HP D (A0 s) Mx1 H1 → dis Mx1 Mr1 → k1 ≤ 100 + 2 * (n + 1) → k2 ≤ 20000 + 16 * (n + 1) → ∀ ls, lv_has ls 4 [(3, .int (nI (7 * n))), (2, .ref (a 0)), (1, .ref (ad 0 0)), (0, .ref b)] → W p l e room_1 s m #[Value.ref b] below meth c H1 locs1 k1 k2 Q (F0 m 1080 ls [])) : ∀ ls, lv_has ls 4 [(3, .int (nI (7 * n))), (2, .ref (a 0)), (1, .ref (ad 0 0)), (0, .ref b)] → W p l e room_1 s m #[Value.ref b] below meth c H locs (100 + 2 * n) (20000 + 16 * n) Q (F0 m 878 ls []) := by
  intro ls hl
  have hx := S.1
  have hb := S.2.1
  have hml := S.2.2.1
  have hown := S.2.2.2.1
  have hts := S.2.2.2.2
  refine lv_aload_n hx hb dL_law_878 rfl (lv_at hl 2 rfl) ?_
  refine lv_aload_n hx hb dL_law_879 rfl (lv_at hl 3 rfl) ?_
  refine lv_iload_n hx hb dL_law_880 rfl (lv_at hl 0 rfl) ?_
  refine lv_iconst (v := 1) hx hb dL_law_881 (by decide) ?_
  refine lv_iadd hx hb dL_law_882 ?_
  refine lv_topi (fun z1 hz1 => ?_)
  have hz1 : z1 = (nI (7 * n + 1)) := by rw [hz1]; exact nI_add (7 * n) 1
  subst hz1
  refine va_sld S.1 S.2.1 hXs hbl (Nat.not_le.mpr hbl) hMx.2.1 (vp_in_nI (n := 7 * n + 1) (by omega) (by omega)) dL_law_883 ?_
  refine lv_topi (fun z2 hz2 => ?_)
  have hz2 : z2 = (xs (7 * n + 1)) := by rw [hz2]; exact congrArg xs (cl_nI (by omega))
  subst hz2
  refine lv_aload_n hx hb dL_law_884 rfl (lv_at hl 3 rfl) ?_
  refine lv_iload_n hx hb dL_law_885 rfl (lv_at hl 0 rfl) ?_
  refine lv_iconst (v := 2) hx hb dL_law_886 (by decide) ?_
  refine lv_iadd hx hb dL_law_887 ?_
  refine lv_topi (fun z3 hz3 => ?_)
  have hz3 : z3 = (nI (7 * n + 2)) := by rw [hz3]; exact nI_add (7 * n) 2
  subst hz3
  refine va_sld S.1 S.2.1 hXs hbl (Nat.not_le.mpr hbl) hMx.2.1 (vp_in_nI (n := 7 * n + 2) (by omega) (by omega)) dL_law_888 ?_
  refine lv_topi (fun z4 hz4 => ?_)
  have hz4 : z4 = (xs (7 * n + 2)) := by rw [hz4]; exact congrArg xs (cl_nI (by omega))
  subst hz4
  refine mc_i hMx (rVm (rest := []) S hK hMx cI4 (XS.c0 hX) rfl (c_X4_play l D cT hX hI (show n < 512 by omega) (xs (7 * n + 1)) (xs (7 * n + 2)) H.size) sm_X4_play w_2_39 w_2_37 ⟨Nat.le_of_ble_eq_true rfl, Nat.le_of_ble_eq_true rfl⟩ ⟨rfl, rfl⟩ rfl hl.1 rfl (Nat.le_of_ble_eq_true rfl) dL_law_889 ⟨by show 100 + 2 * n + 0 ≤ 600000; omega, by show 20000 + 16 * n + 0 ≤ 7302250; omega⟩) (fun r1 Mx1 H1 locs1 hp1 hMx1 hz1 hk1 hB1 => ?_)
  have hMr1 := hMr.other hd hk1
  have hd1 := dis.next hMr hd hB1
  have hMr : HM D (A0 s) Mr s.heap H1 locs1 := ⟨hMx1.1, hMx1.2.1, hMr1⟩
  refine lv_aload_n hx hb dL_law_892 rfl (lv_at hl 1 rfl) ?_
  refine lv_aload_n hx hb dL_law_893 rfl (lv_at hl 3 rfl) ?_
  refine lv_iload_n hx hb dL_law_894 rfl (lv_at hl 0 rfl) ?_
  refine lv_iconst (v := 1) hx hb dL_law_895 (by decide) ?_
  refine lv_iadd hx hb dL_law_896 ?_
  refine lv_topi (fun z5 hz5 => ?_)
  have hz5 : z5 = (nI (7 * n + 1)) := by rw [hz5]; exact nI_add (7 * n) 1
  subst hz5
  refine va_sld S.1 S.2.1 hXs hbl (Nat.not_le.mpr hbl) hMr.2.1 (vp_in_nI (n := 7 * n + 1) (by omega) (by omega)) dL_law_897 ?_
  refine lv_topi (fun z6 hz6 => ?_)
  have hz6 : z6 = (xs (7 * n + 1)) := by rw [hz6]; exact congrArg xs (cl_nI (by omega))
  subst hz6
  refine lv_aload_n hx hb dL_law_898 rfl (lv_at hl 3 rfl) ?_
  refine lv_iload_n hx hb dL_law_899 rfl (lv_at hl 0 rfl) ?_
  refine lv_iconst (v := 2) hx hb dL_law_900 (by decide) ?_
  refine lv_iadd hx hb dL_law_901 ?_
  refine lv_topi (fun z7 hz7 => ?_)
  have hz7 : z7 = (nI (7 * n + 2)) := by rw [hz7]; exact nI_add (7 * n) 2
  subst hz7
  refine va_sld S.1 S.2.1 hXs hbl (Nat.not_le.mpr hbl) hMr.2.1 (vp_in_nI (n := 7 * n + 2) (by omega) (by omega)) dL_law_902 ?_
  refine lv_topi (fun z8 hz8 => ?_)
  have hz8 : z8 = (xs (7 * n + 2)) := by rw [hz8]; exact congrArg xs (cl_nI (by omega))
  subst hz8
  refine mc_i hMr (rVm (rest := [.int r1]) S hK hMr cI5 (RS.c0 hR) rfl (c_X5_play l D cT hR hI (show n + 1 ≤ 512 by omega) (xs (7 * n + 1)) (xs (7 * n + 2)) H1.size) sm_X5_play w_3_54 w_3_52 ⟨Nat.le_of_ble_eq_true rfl, Nat.le_of_ble_eq_true rfl⟩ ⟨rfl, rfl⟩ rfl hl.1 rfl (Nat.le_of_ble_eq_true rfl) dL_law_903 ⟨by show 100 + 2 * n + 0 + 0 ≤ 600000; omega, by show 20000 + 16 * n + 0 + 0 ≤ 7302250; omega⟩) (fun r2 Mr1 H2 locs2 hp2 hMr2 hz2 hk2 hB2 => ?_)
  have hMx2 := hMx1.hp.other hd1.symm hk2
  have hd2 := (dis.next hMx1.hp hd1.symm hB2).symm
  obtain ⟨e1, ad1, had, hX1⟩ := hp1
  obtain ⟨e2, hR1⟩ := hp2
  refine lv_icmp_eq (tgt := 1080) hx hb dL_law_906 (by decide) (fun _ => ?_) (fun w => absurd (e1.trans e2.symm) w)
  exact nx ad1 Mx1 Mr1 H2 locs2 _ _ _ had hX1 hR1 (INV.play (xs (7 * n + 1)) (xs (7 * n + 2)) hI (show n < 512 by omega)) hMr2 hMx2 hd2 (by omega) (by omega) ls hl
end LAW
