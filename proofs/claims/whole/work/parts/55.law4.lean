theorem lim_iff {L k : Nat} (hL : L ≤ 3584) (hk : k ≤ 4000) : (nI L - 7 < nI k) ↔ L < k + 7 := by
  rw [Int32.lt_iff_toInt_lt, Int32.toInt_sub, nI_toInt (by omega), nI_toInt (by omega), show (7 : Int32).toInt = 7 from by decide, Int.bmod_eq_of_le (by omega) (by omega)]
  omega
section LAW
variable {p : Program} {l : Launch} {e : Env} {s : State} {m : MethodId} {below : List Frame} {meth : Method} {c : Code} {b L : Nat} {xs : Nat → Int32} {D : va_G} {cT : Nat → ClassId} {fu fd : Nat → UInt64} {ad : Nat → Nat → Nat} {a : Nat → Nat} {z : SG} {n : Nat} {H : Heap} {locs : List Loc} {Mx Mr : hmp} {Q : State → Prop}
set_option maxHeartbeats 4000000 in
set_option maxRecDepth 100000 in
theorem law_loop (S : CallFix p m c code 4 s #[Value.ref b] lw_all RL) (hK : KK D cT s) (hXs : va_X b L xs s s.heap) (hbl : b < s.heap.size) (hL : L ≤ 3584) (fin : ∀ (H : Heap) (locs : List Loc) (k1 k2 : Nat) (ls : Array Slot), va_S (A0 s) s.heap H locs → k1 ≤ 600000 → k2 ≤ 7302250 → W p l e room_1 s m #[Value.ref b] below meth c H locs k1 k2 Q (F0 m 1086 ls [])) : ∀ (f n : Nat), L < 7 * n + 7 + 7 * f → n ≤ 512 → ∀ (ad : Nat → Nat → Nat) (z : SG) (Mx Mr : hmp) (H : Heap) (locs : List Loc) (k1 k2 : Nat), XS cT fu fd ad Mx z → RS cT a Mr z → INV n z → HM D (A0 s) Mr s.heap H locs → HP D (A0 s) Mx H → dis Mx Mr → k1 ≤ 100 + 2 * n → k2 ≤ 20000 + 16 * n → ∀ ls, lv_has ls 4 [(3, .int (nI (7 * n))), (2, .ref (a 0)), (1, .ref (ad 0 0)), (0, .ref b)] → W p l e room_1 s m #[Value.ref b] below meth c H locs k1 k2 Q (F0 m 18 ls []) := by
  have hx := S.1
  have hb := S.2.1
  intro f
  induction f with
  | zero =>
    intro n hf hn ad z Mx Mr H locs k1 k2 hX hR hI hMr hMx hd hk1 hk2 ls hl
    refine lv_iload_n hx hb dL_law_18 rfl (lv_at hl 0 rfl) ?_
    refine lv_aload_n hx hb dL_law_19 rfl (lv_at hl 3 rfl) ?_
    refine va_slen hx hb hXs hbl (Nat.not_le.mpr hbl) hMr.2.1 dL_law_20 ?_
    refine lv_bipush (v := 7) hx hb dL_law_21 (by decide) ?_
    refine lv_isub hx hb dL_law_23 ?_
    refine lv_icmp_gt (tgt := 1086) hx hb dL_law_24 (by decide) (fun _ => ?_) (fun w => absurd ((lim_iff hL (show 7 * n ≤ 4000 by omega)).mpr (by omega)) w)
    exact fin H locs k1 k2 ls hMr.2.1 (by omega) (by omega)
  | succ f ih =>
    intro n hf hn ad z Mx Mr H locs k1 k2 hX hR hI hMr hMx hd hk1 hk2 ls hl
    refine lv_iload_n hx hb dL_law_18 rfl (lv_at hl 0 rfl) ?_
    refine lv_aload_n hx hb dL_law_19 rfl (lv_at hl 3 rfl) ?_
    refine va_slen hx hb hXs hbl (Nat.not_le.mpr hbl) hMr.2.1 dL_law_20 ?_
    refine lv_bipush (v := 7) hx hb dL_law_21 (by decide) ?_
    refine lv_isub hx hb dL_law_23 ?_
    refine lv_icmp_gt (tgt := 1086) hx hb dL_law_24 (by decide) (fun _ => ?_) (fun w => ?_)
    · exact fin H locs k1 k2 ls hMr.2.1 (by omega) (by omega)
    have h7 : 7 * n + 7 ≤ L := Nat.not_lt.mp (fun q => w ((lim_iff hL (show 7 * n ≤ 4000 by omega)).mpr q))
    have nx : ∀ (ad1 : Nat → Nat → Nat) (Mx1 Mr1 : hmp) (H1 : Heap) (locs1 : List Loc) (z1 : SG) (k1 k2 : Nat), ad1 0 0 = ad 0 0 → XS cT fu fd ad1 Mx1 z1 → RS cT a Mr1 z1 → INV (n + 1) z1 → HM D (A0 s) Mr1 s.heap H1 locs1 → HP D (A0 s) Mx1 H1 → dis Mx1 Mr1 → k1 ≤ 100 + 2 * (n + 1) → k2 ≤ 20000 + 16 * (n + 1) → ∀ ls, lv_has ls 4 [(3, .int (nI (7 * n))), (2, .ref (a 0)), (1, .ref (ad 0 0)), (0, .ref b)] → W p l e room_1 s m #[Value.ref b] below meth c H1 locs1 k1 k2 Q (F0 m 1080 ls []) := by
      intro ad1 Mx1 Mr1 H1 locs1 z1 k1 k2 had hX hR hI hMr hMx hd hk1 hk2 ls hl
      refine lv_iinc (v := nI (7 * n) + 7) (lv' := [(3, .int (nI (7 * n) + 7)), (2, .ref (a 0)), (1, .ref (ad 0 0)), (0, .ref b)]) hx hb dL_law_1080 hl (k := 0) rfl (by rfl) (by decide) rfl (fun ls hl => ?_)
      refine lv_goto (tgt := 18) hx hb dL_law_1083 (by decide) ?_
      rw [show nI (7 * n) + 7 = nI (7 * (n + 1)) from nI_add (7 * n) 7, ← had] at hl
      exact ih (n + 1) (by omega) (by omega) ad1 z1 Mx1 Mr1 H1 locs1 k1 k2 hX hR hI hMr hMx hd hk1 hk2 ls hl
    refine W.widen hk1 hk2 ?_
    have hMx1 : HM D (A0 s) Mx s.heap H locs := ⟨hMr.1, hMr.2.1, hMx⟩
    have hMr1 := hMr.hp
    refine lv_aload_n hx hb dL_law_27 rfl (lv_at hl 3 rfl) ?_
    refine lv_iload_n hx hb dL_law_28 rfl (lv_at hl 0 rfl) ?_
    refine va_sld S.1 S.2.1 hXs hbl (Nat.not_le.mpr hbl) hMr.2.1 (vp_in_nI (n := 7 * n) (by omega) (by omega)) dL_law_29 ?_
    refine lv_bipush (v := 31) hx hb dL_law_30 (by decide) ?_
    refine lv_iand hx hb dL_law_32 ?_
    refine lv_topi (fun x hxx => ?_)
    by_cases ho : x.toInt < 0 ∨ 18 < x.toInt
    · refine lv_tableOut (tgt := 1080) hx hb dL_law_33 ho (by decide) ?_
      exact nx ad Mx Mr H locs z _ _ rfl hX hR (hI.mono (Nat.le_succ n)) hMr hMx hd (by omega) (by omega) ls hl
    obtain ⟨q, hq, hq18⟩ : ∃ q : Nat, x.toInt = q ∧ q < 19 := ⟨x.toInt.toNat, by omega, by omega⟩
    rcases (show q = 0 ∨ q = 1 ∨ q = 2 ∨ q = 3 ∨ q = 4 ∨ q = 5 ∨ q = 6 ∨ q = 7 ∨ q = 8 ∨ q = 9 ∨ q = 10 ∨ q = 11 ∨ q = 12 ∨ q = 13 ∨ q = 14 ∨ q = 15 ∨ q = 16 ∨ q = 17 ∨ q = 18 by omega) with rfl | rfl | rfl | rfl | rfl | rfl | rfl | rfl | rfl | rfl | rfl | rfl | rfl | rfl | rfl | rfl | rfl | rfl | rfl
    · refine lv_tableIn (off := 91) (tgt := 124) hx hb dL_law_33 (by omega) (by omega) (by rw [hq]; rfl) (by decide) ?_
      exact law_row S hK hXs hbl hL h7 hX hR hI hMx1 hMr1 hd nx ls hl
    · refine lv_tableIn (off := 150) (tgt := 183) hx hb dL_law_33 (by omega) (by omega) (by rw [hq]; rfl) (by decide) ?_
      exact law_share S hK hXs hbl hL h7 hX hR hI hMx1 hMr1 hd nx ls hl
    · refine lv_tableIn (off := 209) (tgt := 242) hx hb dL_law_33 (by omega) (by omega) (by rw [hq]; rfl) (by decide) ?_
      exact law_drop S hK hXs hbl hL h7 hX hR hI hMx1 hMr1 hd nx ls hl
    · refine lv_tableIn (off := 258) (tgt := 291) hx hb dL_law_33 (by omega) (by omega) (by rw [hq]; rfl) (by decide) ?_
      exact law_set S hK hXs hbl hL h7 hX hR hI hMx1 hMr1 hd nx ls hl
    · refine lv_tableIn (off := 357) (tgt := 390) hx hb dL_law_33 (by omega) (by omega) (by rw [hq]; rfl) (by decide) ?_
      exact law_get S hK hXs hbl hL h7 hX hR hI hMx1 hMr1 hd nx ls hl
    · refine lv_tableIn (off := 416) (tgt := 449) hx hb dL_law_33 (by omega) (by omega) (by rw [hq]; rfl) (by decide) ?_
      exact law_wrap S hK hXs hbl hL h7 hX hR hI hMx1 hMr1 hd nx ls hl
    · refine lv_tableIn (off := 485) (tgt := 518) hx hb dL_law_33 (by omega) (by omega) (by rw [hq]; rfl) (by decide) ?_
      exact law_effect S hK hXs hbl hL h7 hX hR hI hMx1 hMr1 hd nx ls hl
    · refine lv_tableIn (off := 558) (tgt := 591) hx hb dL_law_33 (by omega) (by omega) (by rw [hq]; rfl) (by decide) ?_
      exact law_make S hK hXs hbl hL h7 hX hR hI hMx1 hMr1 hd nx ls hl
    · refine lv_tableIn (off := 621) (tgt := 654) hx hb dL_law_33 (by omega) (by omega) (by rw [hq]; rfl) (by decide) ?_
      exact law_rack S hK hXs hbl hL h7 hX hR hI hMx1 hMr1 hd nx ls hl
    · refine lv_tableIn (off := 654) (tgt := 687) hx hb dL_law_33 (by omega) (by omega) (by rw [hq]; rfl) (by decide) ?_
      exact law_hang S hK hXs hbl hL h7 hX hR hI hMx1 hMr1 hd nx ls hl
    · refine lv_tableIn (off := 697) (tgt := 730) hx hb dL_law_33 (by omega) (by omega) (by rw [hq]; rfl) (by decide) ?_
      exact law_take S hK hXs hbl hL h7 hX hR hI hMx1 hMr1 hd nx ls hl
    · refine lv_tableIn (off := 750) (tgt := 783) hx hb dL_law_33 (by omega) (by omega) (by rw [hq]; rfl) (by decide) ?_
      exact law_head S hK hXs hbl hL h7 hX hR hI hMx1 hMr1 hd nx ls hl
    · refine lv_tableIn (off := 845) (tgt := 878) hx hb dL_law_33 (by omega) (by omega) (by rw [hq]; rfl) (by decide) ?_
      exact law_play S hK hXs hbl hL h7 hX hR hI hMx1 hMr1 hd nx ls hl
    · refine lv_tableIn (off := 878) (tgt := 911) hx hb dL_law_33 (by omega) (by omega) (by rw [hq]; rfl) (by decide) ?_
      exact law_failed S hK hXs hbl hL h7 hX hR hI hMx1 hMr1 hd nx ls hl
    · refine lv_tableIn (off := 891) (tgt := 924) hx hb dL_law_33 (by omega) (by omega) (by rw [hq]; rfl) (by decide) ?_
      exact law_mix S hK hXs hbl hL h7 hX hR hI hMx1 hMr1 hd nx ls hl
    · refine lv_tableIn (off := 924) (tgt := 957) hx hb dL_law_33 (by omega) (by omega) (by rw [hq]; rfl) (by decide) ?_
      exact law_hush S hK hXs hbl hL h7 hX hR hI hMx1 hMr1 hd nx ls hl
    · refine lv_tableIn (off := 937) (tgt := 970) hx hb dL_law_33 (by omega) (by omega) (by rw [hq]; rfl) (by decide) ?_
      exact law_at S hK hXs hbl hL h7 hX hR hI hMx1 hMr1 hd nx ls hl
    · refine lv_tableIn (off := 970) (tgt := 1003) hx hb dL_law_33 (by omega) (by omega) (by rw [hq]; rfl) (by decide) ?_
      exact law_clock S hK hXs hbl hL h7 hX hR hI hMx1 hMr1 hd nx ls hl
    · refine lv_tableIn (off := 1033) (tgt := 1066) hx hb dL_law_33 (by omega) (by omega) (by rw [hq]; rfl) (by decide) ?_
      exact law_told S hK hXs hbl hL h7 hX hR hI hMx1 hMr1 hd nx ls hl
end LAW
