abbrev inR (x : Int32) (n : Nat) : Prop := ¬ (x < 0 ∨ n ≤ x.toNatClampNeg)
theorem in_yes {x b : Int32} {n : Nat} (hn : n < 2 ^ 31) (hb : b = nI n) (h0 : ¬ x < 0) (h1 : ¬ b ≤ x) : inR x n := by
  obtain ⟨j, hj, rfl⟩ := nI_of h0
  subst hb
  rw [nI_leI hn hj] at h1
  exact vp_in_nI (by omega) hn
theorem in_no0 {x : Int32} {n : Nat} (h0 : x < 0) : ¬ inR x n := fun h => h (Or.inl h0)
theorem in_no1 {x b : Int32} {n : Nat} (hn : n < 2 ^ 31) (hb : b = nI n) (h1 : b ≤ x) : ¬ inR x n := by
  intro h
  obtain ⟨j, hj, rfl⟩ := vp_in_of h hn
  subst hb
  rw [nI_leI hn (by omega)] at h1
  omega
theorem in_iff {x : Int32} {n : Nat} : inR x n ↔ 0 ≤ x.toInt ∧ x.toInt < n := vp_in_iff
theorem in_iff2 {x lo hi : Int32} {n : Nat} (h0 : lo.toInt = 0) (h1 : hi.toInt + 1 = n) : inR x n ↔ ¬ x < lo ∧ ¬ hi < x := by
  rw [in_iff, Int32.lt_iff_toInt_lt, Int32.lt_iff_toInt_lt, h0]
  omega
theorem in_iff3 {x lo hi : Int32} {n : Nat} (h0 : lo.toInt = -1) (h1 : hi.toInt + 1 = n) : (x = -1 ∨ inR x n) ↔ ¬ x < lo ∧ ¬ hi < x := by
  rw [in_iff, Int32.lt_iff_toInt_lt, Int32.lt_iff_toInt_lt, h0, ← Int32.toInt_inj, show (-1 : Int32).toInt = -1 from by decide]
  omega
abbrev fitsP (k w : Int32) : Prop := k = w ∨ (k = 1 ∧ w = 0)
set_option maxHeartbeats 4000000 in
set_option maxRecDepth 100000 in
theorem c_X4_isBelow (l : Launch) (D : va_G) (cT : Nat → ClassId) (H : Heap) {n : Nat} (x b : Int32) (hn : n < 2 ^ 31) (hbn : b = nI n) : Met l yX4_isBelow (wz yX4_isBelow cX4_isBelow 2 (some .boolean)) ({ frames := 0, cells := 0, slots := 0, locals := 0 } : Room) (pP D cT [.int x, .int b] H) (qi (fun r => r = if inR x n then 1 else 0) H) 0 0 (fun _ => False) := by
  refine mk_p (by decide +kernel) (Nat.le_of_ble_eq_true rfl) ?_
  intro p e s m args below meth c S hK hs hr hlocks ls hl
  have hx := S.1
  have hb := S.2.1
  have hml := S.2.2.1
  have hown := S.2.2.2.1
  have hts := S.2.2.2.2
  have hl : lv_has ls 2 [(0, .int x), (1, .int b)] := hl
  refine lv_iload_n hx hb dX4_isBelow_0 rfl (lv_at hl 0 rfl) ?_
  refine lv_if_lt (tgt := 13) hx hb dX4_isBelow_1 (by decide) (fun c1 => ?_) (fun c1 => ?_)
  · skip
    refine lv_iconst (v := 0) hx hb dX4_isBelow_13 (by decide) ?_
    refine pr_z S hs hr hlocks rfl dX4_isBelow_14 ?_
    first | exact (if_neg (by first | exact in_no0 c1 | exact in_no1 hn hbn c6)).symm
  · skip
    refine lv_iload_n hx hb dX4_isBelow_4 rfl (lv_at hl 0 rfl) ?_
    refine lv_iload_n hx hb dX4_isBelow_5 rfl (lv_at hl 1 rfl) ?_
    refine lv_icmp_ge (tgt := 13) hx hb dX4_isBelow_6 (by decide) (fun c6 => ?_) (fun c6 => ?_)
    · skip
      refine lv_iconst (v := 0) hx hb dX4_isBelow_13 (by decide) ?_
      refine pr_z S hs hr hlocks rfl dX4_isBelow_14 ?_
      first | exact (if_neg (by first | exact in_no0 c1 | exact in_no1 hn hbn c6)).symm
    · skip
      refine lv_iconst (v := 1) hx hb dX4_isBelow_9 (by decide) ?_
      refine lv_goto (tgt := 14) hx hb dX4_isBelow_10 (by decide) ?_
      refine pr_z S hs hr hlocks rfl dX4_isBelow_14 ?_
      first | exact (if_pos (in_yes hn hbn c1 c6)).symm
set_option maxHeartbeats 4000000 in
set_option maxRecDepth 100000 in
theorem c_X4_isBelowOrNone (l : Launch) (D : va_G) (cT : Nat → ClassId) (H : Heap) {n : Nat} (x b : Int32) (hn : n < 2 ^ 31) (hbn : b = nI n) : Met l yX4_isBelowOrNone (wz yX4_isBelowOrNone cX4_isBelowOrNone 2 (some .boolean)) ({ frames := 1, cells := 0, slots := 0, locals := 21 } : Room) (pP D cT [.int x, .int b] H) (qi (fun r => r = if x = -1 ∨ inR x n then 1 else 0) H) 0 0 (fun _ => False) := by
  refine mk_p (by decide +kernel) (Nat.le_of_ble_eq_true rfl) ?_
  intro p e s m args below meth c S hK hs hr hlocks ls hl
  have hx := S.1
  have hb := S.2.1
  have hml := S.2.2.1
  have hown := S.2.2.2.1
  have hts := S.2.2.2.2
  have hl : lv_has ls 2 [(0, .int x), (1, .int b)] := hl
  refine lv_iload_n hx hb dX4_isBelowOrNone_0 rfl (lv_at hl 0 rfl) ?_
  refine lv_iconst (v := (-1)) hx hb dX4_isBelowOrNone_1 (by decide) ?_
  refine lv_icmp_eq (tgt := 13) hx hb dX4_isBelowOrNone_2 (by decide) (fun c2 => ?_) (fun c2 => ?_)
  · skip
    refine lv_iconst (v := 1) hx hb dX4_isBelowOrNone_13 (by decide) ?_
    refine lv_goto (tgt := 18) hx hb dX4_isBelowOrNone_14 (by decide) ?_
    refine pr_z S hs hr hlocks rfl dX4_isBelowOrNone_18 ?_
    first | exact (if_pos (Or.inl c2)).symm | exact (if_pos (Or.inr c7)).symm
  · skip
    refine lv_iload_n hx hb dX4_isBelowOrNone_5 rfl (lv_at hl 0 rfl) ?_
    refine lv_iload_n hx hb dX4_isBelowOrNone_6 rfl (lv_at hl 1 rfl) ?_
    refine pc_b (rS (rest := []) S hK (c_X4_isBelow l D cT H x b hn hbn) sm_X4_isBelow w_1_77 ⟨Nat.le_of_ble_eq_true rfl, Nat.le_of_ble_eq_true rfl⟩ ⟨rfl, rfl⟩ rfl hl.1 rfl (Nat.le_of_ble_eq_true rfl) dX4_isBelowOrNone_7 ⟨Nat.le_of_ble_eq_true rfl, Nat.le_of_ble_eq_true rfl⟩) (fun c7 => ?_) (fun c7 => ?_)
    · skip
      refine lv_if_eq (tgt := 17) hx hb dX4_isBelowOrNone_10 (by decide) (fun h => absurd h (by decide)) (fun _ => ?_)
      refine lv_iconst (v := 1) hx hb dX4_isBelowOrNone_13 (by decide) ?_
      refine lv_goto (tgt := 18) hx hb dX4_isBelowOrNone_14 (by decide) ?_
      refine pr_z S hs hr hlocks rfl dX4_isBelowOrNone_18 ?_
      first | exact (if_pos (Or.inl c2)).symm | exact (if_pos (Or.inr c7)).symm
    · skip
      refine lv_if_eq (tgt := 17) hx hb dX4_isBelowOrNone_10 (by decide) (fun _ => ?_) (fun h => absurd (by decide) h)
      refine lv_iconst (v := 0) hx hb dX4_isBelowOrNone_17 (by decide) ?_
      refine pr_z S hs hr hlocks rfl dX4_isBelowOrNone_18 ?_
      first | exact (if_neg (fun q => q.elim c2 c7)).symm
set_option maxHeartbeats 4000000 in
set_option maxRecDepth 100000 in
theorem c_X4_answerFor (l : Launch) (D : va_G) (cT : Nat → ClassId) (H : Heap) (x : Int32) : Met l yX4_answerFor (wz yX4_answerFor cX4_answerFor 1 (some .int)) ({ frames := 0, cells := 0, slots := 0, locals := 0 } : Room) (pP D cT [.int x] H) (qi (fun r => r = -10 - x) H) 0 0 (fun _ => False) := by
  refine mk_p (by decide +kernel) (Nat.le_of_ble_eq_true rfl) ?_
  intro p e s m args below meth c S hK hs hr hlocks ls hl
  have hx := S.1
  have hb := S.2.1
  have hml := S.2.2.1
  have hown := S.2.2.2.1
  have hts := S.2.2.2.2
  have hl : lv_has ls 1 [(0, .int x)] := hl
  refine lv_bipush (v := (-10)) hx hb dX4_answerFor_0 (by decide) ?_
  refine lv_iload_n hx hb dX4_answerFor_2 rfl (lv_at hl 0 rfl) ?_
  refine lv_isub hx hb dX4_answerFor_3 ?_
  refine pr_i S hs hr hlocks dX4_answerFor_4 ?_
  rfl
set_option maxHeartbeats 4000000 in
set_option maxRecDepth 100000 in
theorem c_X5_fails (l : Launch) (D : va_G) (cT : Nat → ClassId) (H : Heap) (x : Int32) : Met l yX5_fails (wz yX5_fails cX5_fails 1 (some .int)) ({ frames := 0, cells := 0, slots := 0, locals := 0 } : Room) (pP D cT [.int x] H) (qi (fun r => r = -10 - x) H) 0 0 (fun _ => False) := by
  refine mk_p (by decide +kernel) (Nat.le_of_ble_eq_true rfl) ?_
  intro p e s m args below meth c S hK hs hr hlocks ls hl
  have hx := S.1
  have hb := S.2.1
  have hml := S.2.2.1
  have hown := S.2.2.2.1
  have hts := S.2.2.2.2
  have hl : lv_has ls 1 [(0, .int x)] := hl
  refine lv_bipush (v := (-10)) hx hb dX5_fails_0 (by decide) ?_
  refine lv_iload_n hx hb dX5_fails_2 rfl (lv_at hl 0 rfl) ?_
  refine lv_isub hx hb dX5_fails_3 ?_
  refine pr_i S hs hr hlocks dX5_fails_4 ?_
  rfl
set_option maxHeartbeats 4000000 in
set_option maxRecDepth 100000 in
theorem c_X5_in (l : Launch) (D : va_G) (cT : Nat → ClassId) (H : Heap) {n : Nat} (x lo hi : Int32) (h0 : lo.toInt = 0) (h1 : hi.toInt + 1 = n) : Met l yX5_in (wz yX5_in cX5_in 3 (some .boolean)) ({ frames := 0, cells := 0, slots := 0, locals := 0 } : Room) (pP D cT [.int x, .int lo, .int hi] H) (qi (fun r => r = if inR x n then 1 else 0) H) 0 0 (fun _ => False) := by
  refine mk_p (by decide +kernel) (Nat.le_of_ble_eq_true rfl) ?_
  intro p e s m args below meth c S hK hs hr hlocks ls hl
  have hx := S.1
  have hb := S.2.1
  have hml := S.2.2.1
  have hown := S.2.2.2.1
  have hts := S.2.2.2.2
  have hl : lv_has ls 3 [(0, .int x), (1, .int lo), (2, .int hi)] := hl
  refine lv_iload_n hx hb dX5_in_0 rfl (lv_at hl 0 rfl) ?_
  refine lv_iload_n hx hb dX5_in_1 rfl (lv_at hl 1 rfl) ?_
  refine lv_icmp_lt (tgt := 14) hx hb dX5_in_2 (by decide) (fun c2 => ?_) (fun c2 => ?_)
  · skip
    refine lv_iconst (v := 0) hx hb dX5_in_14 (by decide) ?_
    refine pr_z S hs hr hlocks rfl dX5_in_15 ?_
    first | exact (if_neg (fun q => by have q := (in_iff2 h0 h1).mp q; first | exact q.1 c2 | exact q.2 c7)).symm
  · skip
    refine lv_iload_n hx hb dX5_in_5 rfl (lv_at hl 0 rfl) ?_
    refine lv_iload_n hx hb dX5_in_6 rfl (lv_at hl 2 rfl) ?_
    refine lv_icmp_gt (tgt := 14) hx hb dX5_in_7 (by decide) (fun c7 => ?_) (fun c7 => ?_)
    · skip
      refine lv_iconst (v := 0) hx hb dX5_in_14 (by decide) ?_
      refine pr_z S hs hr hlocks rfl dX5_in_15 ?_
      first | exact (if_neg (fun q => by have q := (in_iff2 h0 h1).mp q; first | exact q.1 c2 | exact q.2 c7)).symm
    · skip
      refine lv_iconst (v := 1) hx hb dX5_in_10 (by decide) ?_
      refine lv_goto (tgt := 15) hx hb dX5_in_11 (by decide) ?_
      refine pr_z S hs hr hlocks rfl dX5_in_15 ?_
      first | exact (if_pos ((in_iff2 h0 h1).mpr ⟨c2, c7⟩)).symm
set_option maxHeartbeats 4000000 in
set_option maxRecDepth 100000 in
theorem c_X5_in1 (l : Launch) (D : va_G) (cT : Nat → ClassId) (H : Heap) {n : Nat} (x lo hi : Int32) (h0 : lo.toInt = -1) (h1 : hi.toInt + 1 = n) : Met l yX5_in (wz yX5_in cX5_in 3 (some .boolean)) ({ frames := 0, cells := 0, slots := 0, locals := 0 } : Room) (pP D cT [.int x, .int lo, .int hi] H) (qi (fun r => r = if x = -1 ∨ inR x n then 1 else 0) H) 0 0 (fun _ => False) := by
  refine mk_p (by decide +kernel) (Nat.le_of_ble_eq_true rfl) ?_
  intro p e s m args below meth c S hK hs hr hlocks ls hl
  have hx := S.1
  have hb := S.2.1
  have hml := S.2.2.1
  have hown := S.2.2.2.1
  have hts := S.2.2.2.2
  have hl : lv_has ls 3 [(0, .int x), (1, .int lo), (2, .int hi)] := hl
  refine lv_iload_n hx hb dX5_in_0 rfl (lv_at hl 0 rfl) ?_
  refine lv_iload_n hx hb dX5_in_1 rfl (lv_at hl 1 rfl) ?_
  refine lv_icmp_lt (tgt := 14) hx hb dX5_in_2 (by decide) (fun c2 => ?_) (fun c2 => ?_)
  · skip
    refine lv_iconst (v := 0) hx hb dX5_in_14 (by decide) ?_
    refine pr_z S hs hr hlocks rfl dX5_in_15 ?_
    first | exact (if_neg (fun q => by have q := (in_iff3 h0 h1).mp q; first | exact q.1 c2 | exact q.2 c7)).symm
  · skip
    refine lv_iload_n hx hb dX5_in_5 rfl (lv_at hl 0 rfl) ?_
    refine lv_iload_n hx hb dX5_in_6 rfl (lv_at hl 2 rfl) ?_
    refine lv_icmp_gt (tgt := 14) hx hb dX5_in_7 (by decide) (fun c7 => ?_) (fun c7 => ?_)
    · skip
      refine lv_iconst (v := 0) hx hb dX5_in_14 (by decide) ?_
      refine pr_z S hs hr hlocks rfl dX5_in_15 ?_
      first | exact (if_neg (fun q => by have q := (in_iff3 h0 h1).mp q; first | exact q.1 c2 | exact q.2 c7)).symm
    · skip
      refine lv_iconst (v := 1) hx hb dX5_in_10 (by decide) ?_
      refine lv_goto (tgt := 15) hx hb dX5_in_11 (by decide) ?_
      refine pr_z S hs hr hlocks rfl dX5_in_15 ?_
      first | exact (if_pos ((in_iff3 h0 h1).mpr ⟨c2, c7⟩)).symm
set_option maxHeartbeats 4000000 in
set_option maxRecDepth 100000 in
theorem c_X5_slotOf (l : Launch) (D : va_G) (cT : Nat → ClassId) (H : Heap) (cv k : Int32) : Met l yX5_slotOf (wz yX5_slotOf cX5_slotOf 2 (some .int)) ({ frames := 0, cells := 0, slots := 0, locals := 0 } : Room) (pP D cT [.int cv, .int k] H) (qi (fun r => r = if cv = 0 then k else 6 + k) H) 0 0 (fun _ => False) := by
  refine mk_p (by decide +kernel) (Nat.le_of_ble_eq_true rfl) ?_
  intro p e s m args below meth c S hK hs hr hlocks ls hl
  have hx := S.1
  have hb := S.2.1
  have hml := S.2.2.1
  have hown := S.2.2.2.1
  have hts := S.2.2.2.2
  have hl : lv_has ls 2 [(0, .int cv), (1, .int k)] := hl
  refine lv_iload_n hx hb dX5_slotOf_0 rfl (lv_at hl 0 rfl) ?_
  refine lv_if_eq (tgt := 11) hx hb dX5_slotOf_1 (by decide) (fun c1 => ?_) (fun c1 => ?_)
  · skip
    refine lv_iload_n hx hb dX5_slotOf_11 rfl (lv_at hl 1 rfl) ?_
    refine pr_i S hs hr hlocks dX5_slotOf_12 ?_
    first | exact (if_pos c1).symm | exact (if_neg c1).symm
  · skip
    refine lv_bipush (v := 6) hx hb dX5_slotOf_4 (by decide) ?_
    refine lv_iload_n hx hb dX5_slotOf_6 rfl (lv_at hl 1 rfl) ?_
    refine lv_iadd hx hb dX5_slotOf_7 ?_
    refine lv_goto (tgt := 12) hx hb dX5_slotOf_8 (by decide) ?_
    refine pr_i S hs hr hlocks dX5_slotOf_12 ?_
    first | exact (if_pos c1).symm | exact (if_neg c1).symm
set_option maxHeartbeats 4000000 in
set_option maxRecDepth 100000 in
theorem c_X5_fits (l : Launch) (D : va_G) (cT : Nat → ClassId) (H : Heap) (k w : Int32) : Met l yX5_fits (wz yX5_fits cX5_fits 2 (some .boolean)) ({ frames := 0, cells := 0, slots := 0, locals := 0 } : Room) (pP D cT [.int k, .int w] H) (qi (fun r => r = if fitsP k w then 1 else 0) H) 0 0 (fun _ => False) := by
  refine mk_p (by decide +kernel) (Nat.le_of_ble_eq_true rfl) ?_
  intro p e s m args below meth c S hK hs hr hlocks ls hl
  have hx := S.1
  have hb := S.2.1
  have hml := S.2.2.1
  have hown := S.2.2.2.1
  have hts := S.2.2.2.2
  have hl : lv_has ls 2 [(0, .int k), (1, .int w)] := hl
  refine lv_iload_n hx hb dX5_fits_0 rfl (lv_at hl 0 rfl) ?_
  refine lv_iload_n hx hb dX5_fits_1 rfl (lv_at hl 1 rfl) ?_
  refine lv_icmp_eq (tgt := 14) hx hb dX5_fits_2 (by decide) (fun c2 => ?_) (fun c2 => ?_)
  · skip
    refine lv_iconst (v := 1) hx hb dX5_fits_14 (by decide) ?_
    refine lv_goto (tgt := 19) hx hb dX5_fits_15 (by decide) ?_
    refine pr_z S hs hr hlocks rfl dX5_fits_19 ?_
    first | exact (if_pos (Or.inl c2)).symm | exact (if_pos (Or.inr ⟨c7, c11⟩)).symm
  · skip
    refine lv_iload_n hx hb dX5_fits_5 rfl (lv_at hl 0 rfl) ?_
    refine lv_iconst (v := 1) hx hb dX5_fits_6 (by decide) ?_
    refine lv_icmp_ne (tgt := 18) hx hb dX5_fits_7 (by decide) (fun c7 => ?_) (fun c7 => ?_)
    · skip
      refine lv_iconst (v := 0) hx hb dX5_fits_18 (by decide) ?_
      refine pr_z S hs hr hlocks rfl dX5_fits_19 ?_
      first | exact (if_neg (by intro q; rcases q with q | ⟨q1, q2⟩; exact c2 q; first | exact c7 q1 | exact c11 q2)).symm
    · skip
      refine lv_iload_n hx hb dX5_fits_10 rfl (lv_at hl 1 rfl) ?_
      refine lv_if_ne (tgt := 18) hx hb dX5_fits_11 (by decide) (fun c11 => ?_) (fun c11 => ?_)
      · skip
        refine lv_iconst (v := 0) hx hb dX5_fits_18 (by decide) ?_
        refine pr_z S hs hr hlocks rfl dX5_fits_19 ?_
        first | exact (if_neg (by intro q; rcases q with q | ⟨q1, q2⟩; exact c2 q; first | exact c7 q1 | exact c11 q2)).symm
      · skip
        refine lv_iconst (v := 1) hx hb dX5_fits_14 (by decide) ?_
        refine lv_goto (tgt := 19) hx hb dX5_fits_15 (by decide) ?_
        refine pr_z S hs hr hlocks rfl dX5_fits_19 ?_
        first | exact (if_pos (Or.inl c2)).symm | exact (if_pos (Or.inr ⟨c7, c11⟩)).symm
set_option maxHeartbeats 4000000 in
set_option maxRecDepth 100000 in
theorem c_X2_isDouble (l : Launch) (D : va_G) (cT : Nat → ClassId) (H : Heap) (x : Int64) : Met l yX2_isDouble (wz yX2_isDouble cX2_isDouble 2 (some .boolean)) ({ frames := 0, cells := 0, slots := 0, locals := 0 } : Room) (pP D cT [.long x] H) (qi (fun r => r = if fin64 x.toUInt64 then 1 else 0) H) 0 0 (fun _ => False) := by
  refine mk_p (by decide +kernel) (Nat.le_of_ble_eq_true rfl) ?_
  intro p e s m args below meth c S hK hs hr hlocks ls hl
  have hx := S.1
  have hb := S.2.1
  have hml := S.2.2.1
  have hown := S.2.2.2.1
  have hts := S.2.2.2.2
  have hl : lv_has ls 2 [(0, .long x)] := hl
  refine lv_lload_n hx hb dX2_isDouble_0 rfl (lv_at hl 0 rfl) ?_
  refine lv_ldc2 hx hb hown (hts _ w_1_99) dX2_isDouble_1 ?_
  refine lv_land hx hb dX2_isDouble_4 ?_
  refine lv_ldc2 hx hb hown (hts _ w_1_99) dX2_isDouble_5 ?_
  refine W.lcmp hx hb dX2_isDouble_8 ?_
  refine lv_if_eq (tgt := 16) hx hb dX2_isDouble_9 (by decide) (fun c9 => ?_) (fun c9 => ?_)
  · replace c9 := (cv_lcmp_eq _ _).mp c9
    refine lv_iconst (v := 0) hx hb dX2_isDouble_16 (by decide) ?_
    refine pr_z S hs hr hlocks rfl dX2_isDouble_17 ?_
    first | exact (if_neg ((okD_iff x).mp c9)).symm
  · replace c9 := (cv_lcmp_eq_n _ _).mp c9
    refine lv_iconst (v := 1) hx hb dX2_isDouble_12 (by decide) ?_
    refine lv_goto (tgt := 17) hx hb dX2_isDouble_13 (by decide) ?_
    refine pr_z S hs hr hlocks rfl dX2_isDouble_17 ?_
    first | exact (if_pos (Classical.byContradiction (fun q => c9 ((okD_iff x).mpr q)))).symm
set_option maxHeartbeats 4000000 in
set_option maxRecDepth 100000 in
theorem c_X2_isFloat (l : Launch) (D : va_G) (cT : Nat → ClassId) (H : Heap) (x : Int64) : Met l yX2_isFloat (wz yX2_isFloat cX2_isFloat 2 (some .boolean)) ({ frames := 0, cells := 0, slots := 0, locals := 0 } : Room) (pP D cT [.long x] H) (qi (fun r => r = if fin32 (lo32 x) then 1 else 0) H) 0 0 (fun _ => False) := by
  refine mk_p (by decide +kernel) (Nat.le_of_ble_eq_true rfl) ?_
  intro p e s m args below meth c S hK hs hr hlocks ls hl
  have hx := S.1
  have hb := S.2.1
  have hml := S.2.2.1
  have hown := S.2.2.2.1
  have hts := S.2.2.2.2
  have hl : lv_has ls 2 [(0, .long x)] := hl
  refine lv_lload_n hx hb dX2_isFloat_0 rfl (lv_at hl 0 rfl) ?_
  refine lv_ldc2 hx hb hown (hts _ w_1_103) dX2_isFloat_1 ?_
  refine lv_land hx hb dX2_isFloat_4 ?_
  refine lv_ldc2 hx hb hown (hts _ w_1_103) dX2_isFloat_5 ?_
  refine W.lcmp hx hb dX2_isFloat_8 ?_
  refine lv_if_eq (tgt := 16) hx hb dX2_isFloat_9 (by decide) (fun c9 => ?_) (fun c9 => ?_)
  · replace c9 := (cv_lcmp_eq _ _).mp c9
    refine lv_iconst (v := 0) hx hb dX2_isFloat_16 (by decide) ?_
    refine pr_z S hs hr hlocks rfl dX2_isFloat_17 ?_
    first | exact (if_neg ((okF_iff x).mp c9)).symm
  · replace c9 := (cv_lcmp_eq_n _ _).mp c9
    refine lv_iconst (v := 1) hx hb dX2_isFloat_12 (by decide) ?_
    refine lv_goto (tgt := 17) hx hb dX2_isFloat_13 (by decide) ?_
    refine pr_z S hs hr hlocks rfl dX2_isFloat_17 ?_
    first | exact (if_pos (Classical.byContradiction (fun q => c9 ((okF_iff x).mpr q)))).symm
set_option maxHeartbeats 4000000 in
set_option maxRecDepth 100000 in
theorem c_X5_isFine (l : Launch) (D : va_G) (cT : Nat → ClassId) (H : Heap) (cv : Int32) (x : Int64) : Met l yX5_isFine (wz yX5_isFine cX5_isFine 3 (some .boolean)) ({ frames := 0, cells := 0, slots := 0, locals := 0 } : Room) (pP D cT [.int cv, .long x] H) (qi (fun r => r = if if cv = 0 then fin32 (lo32 x) else fin64 x.toUInt64 then 1 else 0) H) 0 0 (fun _ => False) := by
  refine mk_p (by decide +kernel) (Nat.le_of_ble_eq_true rfl) ?_
  intro p e s m args below meth c S hK hs hr hlocks ls hl
  have hx := S.1
  have hb := S.2.1
  have hml := S.2.2.1
  have hown := S.2.2.2.1
  have hts := S.2.2.2.2
  have hl : lv_has ls 3 [(0, .int cv), (1, .long x)] := hl
  refine lv_iload_n hx hb dX5_isFine_0 rfl (lv_at hl 0 rfl) ?_
  refine lv_if_eq (tgt := 24) hx hb dX5_isFine_1 (by decide) (fun c1 => ?_) (fun c1 => ?_)
  · skip
    refine lv_lload_n hx hb dX5_isFine_24 rfl (lv_at hl 1 rfl) ?_
    refine lv_l2i hx hb dX5_isFine_25 rfl ?_
    refine lv_ldc hx hb hown (hts _ w_2_194) dX5_isFine_26 ?_
    refine lv_iand hx hb dX5_isFine_28 ?_
    refine lv_ldc hx hb hown (hts _ w_2_195) dX5_isFine_29 ?_
    refine lv_icmp_ge (tgt := 38) hx hb dX5_isFine_31 (by decide) (fun c31 => ?_) (fun c31 => ?_)
    · skip
      refine lv_iconst (v := 0) hx hb dX5_isFine_38 (by decide) ?_
      refine pr_z S hs hr hlocks rfl dX5_isFine_39 ?_
      first | exact (if_neg (by rw [if_neg c1]; exact (okD_le x).mp c13)).symm | exact (if_neg (by rw [if_pos c1]; exact (okF_le x).mp c31)).symm
    · skip
      refine lv_iconst (v := 1) hx hb dX5_isFine_34 (by decide) ?_
      refine lv_goto (tgt := 39) hx hb dX5_isFine_35 (by decide) ?_
      refine pr_z S hs hr hlocks rfl dX5_isFine_39 ?_
      first | exact (if_pos (by rw [if_neg c1]; exact Classical.byContradiction (fun q => c13 ((okD_le x).mpr q)))).symm | exact (if_pos (by rw [if_pos c1]; exact Classical.byContradiction (fun q => c31 ((okF_le x).mpr q)))).symm
  · skip
    refine lv_lload_n hx hb dX5_isFine_4 rfl (lv_at hl 1 rfl) ?_
    refine lv_ldc2 hx hb hown (hts _ w_2_192) dX5_isFine_5 ?_
    refine lv_land hx hb dX5_isFine_8 ?_
    refine lv_ldc2 hx hb hown (hts _ w_2_193) dX5_isFine_9 ?_
    refine W.lcmp hx hb dX5_isFine_12 ?_
    refine lv_if_ge (tgt := 20) hx hb dX5_isFine_13 (by decide) (fun c13 => ?_) (fun c13 => ?_)
    · replace c13 := (cv_lcmp_ge _ _).mp c13
      refine lv_iconst (v := 0) hx hb dX5_isFine_20 (by decide) ?_
      refine lv_goto (tgt := 39) hx hb dX5_isFine_21 (by decide) ?_
      refine pr_z S hs hr hlocks rfl dX5_isFine_39 ?_
      first | exact (if_neg (by rw [if_neg c1]; exact (okD_le x).mp c13)).symm | exact (if_neg (by rw [if_pos c1]; exact (okF_le x).mp c31)).symm
    · replace c13 := (cv_lcmp_ge_n _ _).mp c13
      refine lv_iconst (v := 1) hx hb dX5_isFine_16 (by decide) ?_
      refine lv_goto (tgt := 39) hx hb dX5_isFine_17 (by decide) ?_
      refine pr_z S hs hr hlocks rfl dX5_isFine_39 ?_
      first | exact (if_pos (by rw [if_neg c1]; exact Classical.byContradiction (fun q => c13 ((okD_le x).mpr q)))).symm | exact (if_pos (by rw [if_pos c1]; exact Classical.byContradiction (fun q => c31 ((okF_le x).mpr q)))).symm
set_option maxHeartbeats 4000000 in
set_option maxRecDepth 100000 in
theorem c_X2_sizeOf (l : Launch) (D : va_G) (cT : Nat → ClassId) (H : Heap) (x : UInt64) : Met l yX2_sizeOf (wz yX2_sizeOf cX2_sizeOf 2 (some .double)) ({ frames := 0, cells := 0, slots := 0, locals := 0 } : Room) (pP D cT [.double x] H) (qd (fun r => r = szf x) H) 0 0 (fun _ => False) := by
  refine mk_p (by decide +kernel) (Nat.le_of_ble_eq_true rfl) ?_
  intro p e s m args below meth c S hK hs hr hlocks ls hl
  have hx := S.1
  have hb := S.2.1
  have hml := S.2.2.1
  have hown := S.2.2.2.1
  have hts := S.2.2.2.2
  have hl : lv_has ls 2 [(0, .double x)] := hl
  refine lv_dload_n hx hb dX2_sizeOf_0 rfl (lv_at hl 0 rfl) ?_
  refine lv_dconst0 hx hb dX2_sizeOf_1 ?_
  refine lv_dcmp hx hb dX2_sizeOf_2 ?_
  refine lv_if_ge (tgt := 11) hx hb dX2_sizeOf_3 (by decide) (fun c3 => ?_) (fun c3 => ?_)
  · replace c3 := (cv_dcmp_g_ge _ _).mp c3
    refine lv_dload_n hx hb dX2_sizeOf_11 rfl (lv_at hl 0 rfl) ?_
    refine pr_d S hs hr hlocks dX2_sizeOf_12 ?_
    first | exact (if_pos c3).symm | exact (if_neg c3).symm
  · replace c3 := (cv_dcmp_g_ge_n _ _).mp c3
    refine lv_dload_n hx hb dX2_sizeOf_6 rfl (lv_at hl 0 rfl) ?_
    refine lv_dneg hx hb dX2_sizeOf_7 ?_
    refine lv_goto (tgt := 12) hx hb dX2_sizeOf_8 (by decide) ?_
    refine pr_d S hs hr hlocks dX2_sizeOf_12 ?_
    first | exact (if_pos c3).symm | exact (if_neg c3).symm
theorem inv_zero {x : UInt64} (h : fin64 x) (h0 : zmg x = 0) : FP.dIsNaN (FP.ddiv FP.dconst1 x) = false ∧ (dLt (FP.ddiv FP.dconst1 x) FP.dconst0 ↔ 9223372036854775808 ≤ x.toNat) := by
  have hl := x.toNat_lt
  have h1 := zmg_zero.mp h0
  by_cases hs : 9223372036854775808 ≤ x.toNat
  · have e : x = 9223372036854775808 := by apply UInt64.toNat_inj.mp; show x.toNat = 9223372036854775808; omega
    subst e
    decide +kernel
  · have e : x = 0 := by apply UInt64.toNat_inj.mp; show x.toNat = 0; omega
    subst e
    decide +kernel
theorem sg_yes {x : UInt64} (h : fin64 x) (h1 : dLt x FP.dconst0) : 9223372036854775808 ≤ x.toNat := ((lt0_iff h).mp h1).1
theorem sg_no {x : UInt64} (h : fin64 x) (h1 : ¬ dLt x FP.dconst0) (h2 : ¬ dEq x FP.dconst0) : ¬ 9223372036854775808 ≤ x.toNat := fun q => h1 ((lt0_iff h).mpr ⟨q, Nat.pos_of_ne_zero (fun z => h2 ((eq0_iff h).mpr z))⟩)

set_option maxHeartbeats 4000000 in
set_option maxRecDepth 100000 in
theorem c_X2_isSigned (l : Launch) (D : va_G) (cT : Nat → ClassId) (H : Heap) (x : UInt64) (hf : fin64 x) : Met l yX2_isSigned (wz yX2_isSigned cX2_isSigned 2 (some .boolean)) ({ frames := 0, cells := 0, slots := 0, locals := 0 } : Room) (pP D cT [.double x] H) (qi (fun r => r = if 9223372036854775808 ≤ x.toNat then 1 else 0) H) 0 0 (fun _ => False) := by
  refine mk_p (by decide +kernel) (Nat.le_of_ble_eq_true rfl) ?_
  intro p e s m args below meth c S hK hs hr hlocks ls hl
  have hx := S.1
  have hb := S.2.1
  have hml := S.2.2.1
  have hown := S.2.2.2.1
  have hts := S.2.2.2.2
  have hl : lv_has ls 2 [(0, .double x)] := hl
  refine lv_dload_n hx hb dX2_isSigned_0 rfl (lv_at hl 0 rfl) ?_
  refine lv_dconst0 hx hb dX2_isSigned_1 ?_
  refine lv_dcmp hx hb dX2_isSigned_2 ?_
  refine lv_if_lt (tgt := 20) hx hb dX2_isSigned_3 (by decide) (fun c3 => ?_) (fun c3 => ?_)
  · replace c3 := (cv_dcmp_g_lt _ _).mp c3
    refine lv_iconst (v := 1) hx hb dX2_isSigned_20 (by decide) ?_
    refine lv_goto (tgt := 25) hx hb dX2_isSigned_21 (by decide) ?_
    refine pr_z S hs hr hlocks rfl dX2_isSigned_25 ?_
    first | exact (if_pos (sg_yes hf c3)).symm | exact (if_pos ((inv_zero hf ((eq0_iff hf).mp c9)).2.mp c17)).symm
  · replace c3 := (cv_dcmp_g_lt_n _ _).mp c3
    refine lv_dload_n hx hb dX2_isSigned_6 rfl (lv_at hl 0 rfl) ?_
    refine lv_dconst0 hx hb dX2_isSigned_7 ?_
    refine lv_dcmp hx hb dX2_isSigned_8 ?_
    refine lv_if_ne (tgt := 24) hx hb dX2_isSigned_9 (by decide) (fun c9 => ?_) (fun c9 => ?_)
    · replace c9 := (cv_dcmp_l_ne _ _).mp c9
      refine lv_iconst (v := 0) hx hb dX2_isSigned_24 (by decide) ?_
      refine pr_z S hs hr hlocks rfl dX2_isSigned_25 ?_
      first | exact (if_neg (sg_no hf c3 c9)).symm | exact (if_neg (fun q => c17 ((inv_zero hf ((eq0_iff hf).mp c9)).2.mpr q))).symm
    · replace c9 := (cv_dcmp_l_ne_n _ _).mp c9
      refine lv_dconst1 hx hb dX2_isSigned_12 ?_
      refine lv_dload_n hx hb dX2_isSigned_13 rfl (lv_at hl 0 rfl) ?_
      refine lv_ddiv hx hb dX2_isSigned_14 (n64_of (inv_zero hf ((eq0_iff hf).mp c9)).1) ?_
      refine lv_dconst0 hx hb dX2_isSigned_15 ?_
      refine lv_dcmp hx hb dX2_isSigned_16 ?_
      refine lv_if_ge (tgt := 24) hx hb dX2_isSigned_17 (by decide) (fun c17 => ?_) (fun c17 => ?_)
      · replace c17 := (cv_dcmp_g_ge _ _).mp c17
        refine lv_iconst (v := 0) hx hb dX2_isSigned_24 (by decide) ?_
        refine pr_z S hs hr hlocks rfl dX2_isSigned_25 ?_
        first | exact (if_neg (sg_no hf c3 c9)).symm | exact (if_neg (fun q => c17 ((inv_zero hf ((eq0_iff hf).mp c9)).2.mpr q))).symm
      · replace c17 := (cv_dcmp_g_ge_n _ _).mp c17
        refine lv_iconst (v := 1) hx hb dX2_isSigned_20 (by decide) ?_
        refine lv_goto (tgt := 25) hx hb dX2_isSigned_21 (by decide) ?_
        refine pr_z S hs hr hlocks rfl dX2_isSigned_25 ?_
        first | exact (if_pos (sg_yes hf c3)).symm | exact (if_pos ((inv_zero hf ((eq0_iff hf).mp c9)).2.mp c17)).symm
set_option maxHeartbeats 4000000 in
set_option maxRecDepth 100000 in
theorem c_X2_held (l : Launch) (D : va_G) (cT : Nat → ClassId) (H : Heap) (x : UInt64) (hn : FP.dIsNaN x = false) : Met l yX2_held (wz yX2_held cX2_held 4 (some .float)) ({ frames := 0, cells := 0, slots := 0, locals := 0 } : Room) (pP D cT [.double x] H) (qf (fun r => r = heldf x) H) 0 0 (fun _ => False) := by
  refine mk_p (by decide +kernel) (Nat.le_of_ble_eq_true rfl) ?_
  intro p e s m args below meth c S hK hs hr hlocks ls hl
  have hx := S.1
  have hb := S.2.1
  have hml := S.2.2.1
  have hown := S.2.2.2.1
  have hts := S.2.2.2.2
  have hl : lv_has ls 4 [(0, .double x)] := hl
  refine lv_ldc2d hx hb hown (hts _ w_1_198) dX2_held_0 ?_
  refine lv_dstore_n (lv' := [(2, .double 5183643170566569984), (0, .double x)]) hx hb dX2_held_3 rfl hl (by decide) rfl (fun ls hl => ?_)
  refine lv_dload_n hx hb dX2_held_4 rfl (lv_at hl 1 rfl) ?_
  refine lv_dload_n hx hb dX2_held_5 rfl (lv_at hl 0 rfl) ?_
  refine lv_dcmp hx hb dX2_held_6 ?_
  refine lv_if_le (tgt := 13) hx hb dX2_held_7 (by decide) (fun c7 => ?_) (fun c7 => ?_)
  · replace c7 := (cv_dcmp_l_le _ _).mp c7
    refine lv_dload_n hx hb dX2_held_13 rfl (lv_at hl 1 rfl) ?_
    refine lv_dload_n hx hb dX2_held_14 rfl (lv_at hl 0 rfl) ?_
    refine lv_dneg hx hb dX2_held_15 ?_
    refine lv_dcmp hx hb dX2_held_16 ?_
    refine lv_if_ge (tgt := 26) hx hb dX2_held_17 (by decide) (fun c17 => ?_) (fun c17 => ?_)
    · replace c17 := (cv_dcmp_g_ge _ _).mp c17
      refine lv_dload_n hx hb dX2_held_26 rfl (lv_at hl 1 rfl) ?_
      refine lv_d2f hx hb dX2_held_27 (n32_of (d2f_nn hn)) ?_
      refine pr_f S hs hr hlocks dX2_held_28 ?_
      first | (unfold heldf; rw [if_pos c7]; exact d2f_MX) | (unfold heldf; rw [if_neg c7, if_pos (by rw [← dneg_MX]; exact c17), dneg_MX]; exact d2f_NX) | (unfold heldf; rw [if_neg c7, if_neg (by rw [← dneg_MX]; exact c17)])
    · replace c17 := (cv_dcmp_g_ge_n _ _).mp c17
      refine lv_dload_n hx hb dX2_held_20 rfl (lv_at hl 0 rfl) ?_
      refine lv_dneg hx hb dX2_held_21 ?_
      refine lv_d2f hx hb dX2_held_22 (by rw [dneg_MX, d2f_NX]; exact n32_of (by decide +kernel)) ?_
      refine lv_goto (tgt := 28) hx hb dX2_held_23 (by decide) ?_
      refine pr_f S hs hr hlocks dX2_held_28 ?_
      first | (unfold heldf; rw [if_pos c7]; exact d2f_MX) | (unfold heldf; rw [if_neg c7, if_pos (by rw [← dneg_MX]; exact c17), dneg_MX]; exact d2f_NX) | (unfold heldf; rw [if_neg c7, if_neg (by rw [← dneg_MX]; exact c17)])
  · replace c7 := (cv_dcmp_l_le_n _ _).mp c7
    refine lv_dload_n hx hb dX2_held_10 rfl (lv_at hl 0 rfl) ?_
    refine lv_d2f hx hb dX2_held_11 (by rw [d2f_MX]; exact n32_of (by decide +kernel)) ?_
    refine pr_f S hs hr hlocks dX2_held_12 ?_
    first | (unfold heldf; rw [if_pos c7]; exact d2f_MX) | (unfold heldf; rw [if_neg c7, if_pos (by rw [← dneg_MX]; exact c17), dneg_MX]; exact d2f_NX) | (unfold heldf; rw [if_neg c7, if_neg (by rw [← dneg_MX]; exact c17)])
set_option maxHeartbeats 4000000 in
set_option maxRecDepth 100000 in
theorem c_X5_held (l : Launch) (D : va_G) (cT : Nat → ClassId) (H : Heap) (x : UInt64) (hn : FP.dIsNaN x = false) : Met l yX5_held (wz yX5_held cX5_held 3 (some .double)) ({ frames := 0, cells := 0, slots := 0, locals := 0 } : Room) (pP D cT [.double x] H) (qd (fun r => r = FP.f2d (heldf x)) H) 0 0 (fun _ => False) := by
  refine mk_p (by decide +kernel) (Nat.le_of_ble_eq_true rfl) ?_
  intro p e s m args below meth c S hK hs hr hlocks ls hl
  have hx := S.1
  have hb := S.2.1
  have hml := S.2.2.1
  have hown := S.2.2.2.1
  have hts := S.2.2.2.2
  have hl : lv_has ls 3 [(0, .double x)] := hl
  refine lv_dload_n hx hb dX5_held_0 rfl (lv_at hl 0 rfl) ?_
  refine lv_d2f hx hb dX5_held_1 (n32_of (d2f_nn hn)) ?_
  refine lv_fstore_n (lv' := [(2, .float (FP.d2f x)), (0, .double x)]) hx hb dX5_held_2 rfl hl (by decide) rfl (fun ls hl => ?_)
  refine lv_fload_n hx hb dX5_held_3 rfl (lv_at hl 0 rfl) ?_
  refine lv_ldcf hx hb hown (hts _ w_3_24) dX5_held_4 ?_
  refine lv_fcmp hx hb dX5_held_6 ?_
  refine lv_if_le (tgt := 16) hx hb dX5_held_7 (by decide) (fun c7 => ?_) (fun c7 => ?_)
  · replace c7 := (cv_fcmp_l_le _ _).mp c7
    refine lv_fload_n hx hb dX5_held_16 rfl (lv_at hl 0 rfl) ?_
    refine lv_ldcf hx hb hown (hts _ w_3_26) dX5_held_17 ?_
    refine lv_fcmp hx hb dX5_held_19 ?_
    refine lv_if_ge (tgt := 29) hx hb dX5_held_20 (by decide) (fun c20 => ?_) (fun c20 => ?_)
    · replace c20 := (cv_fcmp_g_ge _ _).mp c20
      refine lv_fload_n hx hb dX5_held_29 rfl (lv_at hl 0 rfl) ?_
      refine lv_f2d hx hb dX5_held_30 (n64_of (by rw [FP.f2d_nan]; exact d2f_nn hn)) ?_
      refine pr_d S hs hr hlocks dX5_held_31 ?_
      first | (rw [← heldm_eq hn]; unfold heldm; rw [if_pos c7]) | (rw [← heldm_eq hn]; unfold heldm; rw [if_neg c7, if_pos c20]) | (rw [← heldm_eq hn]; unfold heldm; rw [if_neg c7, if_neg c20])
    · replace c20 := (cv_fcmp_g_ge_n _ _).mp c20
      refine lv_ldc2d hx hb hown (hts _ w_3_27) dX5_held_23 ?_
      refine lv_goto (tgt := 31) hx hb dX5_held_26 (by decide) ?_
      refine pr_d S hs hr hlocks dX5_held_31 ?_
      first | (rw [← heldm_eq hn]; unfold heldm; rw [if_pos c7]) | (rw [← heldm_eq hn]; unfold heldm; rw [if_neg c7, if_pos c20]) | (rw [← heldm_eq hn]; unfold heldm; rw [if_neg c7, if_neg c20])
  · replace c7 := (cv_fcmp_l_le_n _ _).mp c7
    refine lv_ldc2d hx hb hown (hts _ w_3_25) dX5_held_10 ?_
    refine lv_goto (tgt := 31) hx hb dX5_held_13 (by decide) ?_
    refine pr_d S hs hr hlocks dX5_held_31 ?_
    first | (rw [← heldm_eq hn]; unfold heldm; rw [if_pos c7]) | (rw [← heldm_eq hn]; unfold heldm; rw [if_neg c7, if_pos c20]) | (rw [← heldm_eq hn]; unfold heldm; rw [if_neg c7, if_neg c20])
set_option maxHeartbeats 4000000 in
set_option maxRecDepth 100000 in
theorem c_X4_isWithin (l : Launch) (D : va_G) (cT : Nat → ClassId) (H : Heap) (x : UInt64) (b : Int32) : Met l yX4_isWithin (wz yX4_isWithin cX4_isWithin 3 (some .boolean)) ({ frames := 0, cells := 0, slots := 0, locals := 0 } : Room) (pP D cT [.double x, .int b] H) (qi (fun r => r = if dGe x (FP.i2d (-b)) ∧ dLe x (FP.i2d b) then 1 else 0) H) 0 0 (fun _ => False) := by
  refine mk_p (by decide +kernel) (Nat.le_of_ble_eq_true rfl) ?_
  intro p e s m args below meth c S hK hs hr hlocks ls hl
  have hx := S.1
  have hb := S.2.1
  have hml := S.2.2.1
  have hown := S.2.2.2.1
  have hts := S.2.2.2.2
  have hl : lv_has ls 3 [(0, .double x), (2, .int b)] := hl
  refine lv_dload_n hx hb dX4_isWithin_0 rfl (lv_at hl 0 rfl) ?_
  refine lv_iload_n hx hb dX4_isWithin_1 rfl (lv_at hl 1 rfl) ?_
  refine lv_ineg hx hb dX4_isWithin_2 ?_
  refine lv_i2d hx hb dX4_isWithin_3 ?_
  refine lv_dcmp hx hb dX4_isWithin_4 ?_
  refine lv_if_lt (tgt := 19) hx hb dX4_isWithin_5 (by decide) (fun c5 => ?_) (fun c5 => ?_)
  · replace c5 := (cv_dcmp_l_lt _ _).mp c5
    refine lv_iconst (v := 0) hx hb dX4_isWithin_19 (by decide) ?_
    refine pr_z S hs hr hlocks rfl dX4_isWithin_20 ?_
    first | exact (if_neg (fun q => c5 q.1)).symm | exact (if_neg (fun q => c12 q.2)).symm
  · replace c5 := (cv_dcmp_l_lt_n _ _).mp c5
    refine lv_dload_n hx hb dX4_isWithin_8 rfl (lv_at hl 0 rfl) ?_
    refine lv_iload_n hx hb dX4_isWithin_9 rfl (lv_at hl 1 rfl) ?_
    refine lv_i2d hx hb dX4_isWithin_10 ?_
    refine lv_dcmp hx hb dX4_isWithin_11 ?_
    refine lv_if_gt (tgt := 19) hx hb dX4_isWithin_12 (by decide) (fun c12 => ?_) (fun c12 => ?_)
    · replace c12 := (cv_dcmp_g_gt _ _).mp c12
      refine lv_iconst (v := 0) hx hb dX4_isWithin_19 (by decide) ?_
      refine pr_z S hs hr hlocks rfl dX4_isWithin_20 ?_
      first | exact (if_neg (fun q => c5 q.1)).symm | exact (if_neg (fun q => c12 q.2)).symm
    · replace c12 := (cv_dcmp_g_gt_n _ _).mp c12
      refine lv_iconst (v := 1) hx hb dX4_isWithin_15 (by decide) ?_
      refine lv_goto (tgt := 20) hx hb dX4_isWithin_16 (by decide) ?_
      refine pr_z S hs hr hlocks rfl dX4_isWithin_20 ?_
      first | exact (if_pos (⟨c5, c12⟩)).symm
def foldf (t : UInt64) : UInt64 := if dGt t FP.dconst1 then FP.dsub d2 t else if dLt t 13830554455654793216 then FP.dsub 13835058055282163712 t else t
theorem fin_d2 : fin64 d2 := by decide
theorem fin_dn2 : fin64 13835058055282163712 := by decide
theorem fold_nn {t : UInt64} (h : fin64 t) : FP.dIsNaN (foldf t) = false := by
  unfold foldf
  by_cases h1 : dGt t FP.dconst1
  · rw [if_pos h1]; exact nn_sub fin_d2 h
  · rw [if_neg h1]
    by_cases h2 : dLt t 13830554455654793216
    · rw [if_pos h2]; exact nn_sub fin_dn2 h
    · rw [if_neg h2]; exact fin64_nn h

set_option maxHeartbeats 4000000 in
set_option maxRecDepth 100000 in
theorem c_X0_folded (l : Launch) (D : va_G) (cT : Nat → ClassId) (H : Heap) (x : UInt64) (hf : fin64 x) : Met l yX0_folded (wz yX0_folded cX0_folded 2 (some .double)) ({ frames := 0, cells := 0, slots := 0, locals := 0 } : Room) (pP D cT [.double x] H) (qd (fun r => r = foldf x) H) 0 0 (fun _ => False) := by
  refine mk_p (by decide +kernel) (Nat.le_of_ble_eq_true rfl) ?_
  intro p e s m args below meth c S hK hs hr hlocks ls hl
  have hx := S.1
  have hb := S.2.1
  have hml := S.2.2.1
  have hown := S.2.2.2.1
  have hts := S.2.2.2.2
  have hl : lv_has ls 2 [(0, .double x)] := hl
  refine lv_dload_n hx hb dX0_folded_0 rfl (lv_at hl 0 rfl) ?_
  refine lv_dconst1 hx hb dX0_folded_1 ?_
  refine lv_dcmp hx hb dX0_folded_2 ?_
  refine lv_if_le (tgt := 12) hx hb dX0_folded_3 (by decide) (fun c3 => ?_) (fun c3 => ?_)
  · replace c3 := (cv_dcmp_l_le _ _).mp c3
    refine lv_dload_n hx hb dX0_folded_12 rfl (lv_at hl 0 rfl) ?_
    refine lv_ldc2d hx hb hown (hts _ w_1_204) dX0_folded_13 ?_
    refine lv_dcmp hx hb dX0_folded_16 ?_
    refine lv_if_ge (tgt := 28) hx hb dX0_folded_17 (by decide) (fun c17 => ?_) (fun c17 => ?_)
    · replace c17 := (cv_dcmp_g_ge _ _).mp c17
      refine lv_dload_n hx hb dX0_folded_28 rfl (lv_at hl 0 rfl) ?_
      refine pr_d S hs hr hlocks dX0_folded_29 ?_
      first | (unfold foldf; rw [if_pos c3]) | (unfold foldf; rw [if_neg c3, if_pos c17]) | (unfold foldf; rw [if_neg c3, if_neg c17])
    · replace c17 := (cv_dcmp_g_ge_n _ _).mp c17
      refine lv_ldc2d hx hb hown (hts _ w_1_205) dX0_folded_20 ?_
      refine lv_dload_n hx hb dX0_folded_23 rfl (lv_at hl 0 rfl) ?_
      refine lv_dsub hx hb dX0_folded_24 (n64_of (nn_sub fin_dn2 hf)) ?_
      refine lv_goto (tgt := 29) hx hb dX0_folded_25 (by decide) ?_
      refine pr_d S hs hr hlocks dX0_folded_29 ?_
      first | (unfold foldf; rw [if_pos c3]) | (unfold foldf; rw [if_neg c3, if_pos c17]) | (unfold foldf; rw [if_neg c3, if_neg c17])
  · replace c3 := (cv_dcmp_l_le_n _ _).mp c3
    refine lv_ldc2d hx hb hown (hts _ w_1_199) dX0_folded_6 ?_
    refine lv_dload_n hx hb dX0_folded_9 rfl (lv_at hl 0 rfl) ?_
    refine lv_dsub hx hb dX0_folded_10 (n64_of (nn_sub fin_d2 hf)) ?_
    refine pr_d S hs hr hlocks dX0_folded_11 ?_
    first | (unfold foldf; rw [if_pos c3]) | (unfold foldf; rw [if_neg c3, if_pos c17]) | (unfold foldf; rw [if_neg c3, if_neg c17])
