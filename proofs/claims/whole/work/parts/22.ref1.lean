theorem cl_nI {n : Nat} (h : n < 2 ^ 31) : cl (nI n) = n := nI_clamp h
theorem in_cl {x : Int32} {n : Nat} (h : inR x n) : cl x < n := Nat.not_le.mp fun q => h (Or.inr q)
theorem in_nI {x : Int32} {n : Nat} (h : inR x n) (hn : n < 2 ^ 31) : x = nI (cl x) := by
  obtain ⟨j, hj, rfl⟩ := vp_in_of h hn
  rw [cl_nI (by omega)]
theorem pos_nI {x : Int32} (h : ¬ x < 0) : x = nI (cl x) ∧ cl x < 2 ^ 31 := by
  obtain ⟨j, hj, rfl⟩ := nI_of h
  rw [cl_nI hj]; exact ⟨rfl, hj⟩
theorem slot_lt {cv k : Int32} (h : inR k 6) : inR (if cv = 0 then k else 6 + k) 12 ∧ slot cv k < 12 ∧ slot cv k = (if cv = 0 then cl k else 6 + cl k) := by
  have h1 := in_cl h
  have h2 := in_nI h (by decide)
  unfold slot
  by_cases c : cv = 0
  · rw [if_pos c, if_pos c]
    exact ⟨by rw [h2]; exact vp_in_nI (by omega) (by decide), by omega, rfl⟩
  · rw [if_neg c, if_neg c]
    have e : 6 + k = nI (6 + cl k) := by rw [h2, show (6 : Int32) = nI 6 from rfl, nI_add, cl_nI (by omega)]
    rw [e, cl_nI (by omega)]
    exact ⟨vp_in_nI (by omega) (by decide), by omega, rfl⟩
theorem INV.r0 {n : Nat} {z : SG} (h : INV n z) (hn : n ≤ 512) : ∃ r, r ≤ 512 ∧ z.1 0 0 = nI r := by
  obtain ⟨⟨r, h1, h2, -⟩, -⟩ := h
  exact ⟨r, by omega, h2⟩
theorem INV.m0 {n : Nat} {z : SG} (h : INV n z) (hn : n ≤ 512) : ∃ r, r ≤ 512 ∧ z.1 0 1 = nI r := by
  obtain ⟨-, ⟨r, h1, h2, -⟩, -⟩ := h
  exact ⟨r, by omega, h2⟩
theorem INV.sl {n : Nat} {z : SG} (h : INV n z) (hn : n ≤ 512) {k : Nat} (hk : k < 12) (h0 : ¬ z.1 2 k < 0) : cl (z.1 2 k) < 512 ∧ inR (z.1 1 (cl (z.1 2 k))) 17 := by
  obtain ⟨⟨r, h1, h2, h3, h4, -⟩, -⟩ := h
  have h5 := (h4 k hk).resolve_left h0
  exact ⟨by omega, h3 _ h5⟩
theorem INV.it {n : Nat} {z : SG} (h : INV n z) {k j : Nat} (hk : k < 12) (h0 : ¬ z.1 2 k < 0) (hj : j < 16) : fin64 (z.2.1 0 (16 * cl (z.1 2 k) + j)) := by
  obtain ⟨⟨r, h1, h2, h3, h4, h5, -⟩, -⟩ := h
  exact (h5 _ _ ((h4 k hk).resolve_left h0) hj).1
theorem INV.itf {n : Nat} {z : SG} (h : INV n z) {k j : Nat} (hk : k < 6) (h0 : ¬ z.1 2 k < 0) (hj : j < 16) : flo (z.2.1 0 (16 * cl (z.1 2 k) + j)) := by
  obtain ⟨⟨r, h1, h2, h3, h4, h5, h6, -⟩, -⟩ := h
  exact (h5 _ _ ((h4 k (by omega)).resolve_left h0) hj).2 (h6 k hk h0)
theorem INV.ef {n : Nat} {z : SG} (h : INV n z) (hn : n ≤ 512) {k : Nat} (hk : k < 6) (h0 : ¬ z.1 4 k < 0) : cl (z.1 4 k) < 512 ∧ fin64 (z.2.1 1 (cl (z.1 4 k))) ∧ rng (z.2.1 1 (cl (z.1 4 k))) 13920209183539462144 4696837146684686336 := by
  obtain ⟨-, ⟨r, h1, h2, h3, h4, -⟩, -⟩ := h
  have h5 := (h4 k hk).resolve_left h0
  exact ⟨by omega, h3 _ h5⟩
theorem INV.hk {n : Nat} {z : SG} (h : INV n z) (hn : n ≤ 512) {k : Nat} (hk : k < 9) (h0 : ¬ z.1 6 k < 0) : cl (z.1 6 k) < 512 ∧ fin64 (z.2.1 1 (cl (z.1 6 k))) ∧ rng (z.2.1 1 (cl (z.1 6 k))) 13920209183539462144 4696837146684686336 := by
  obtain ⟨-, ⟨r, h1, h2, h3, -, h4⟩, -⟩ := h
  have h5 := (h4 k hk).resolve_left h0
  exact ⟨by omega, h3 _ h5⟩
theorem sz_m1 {x : Int32} (h : inR x 17) : (x - 1).toInt + 1 = ((cl x : Nat) : Int) := by
  have h1 := in_cl h
  have h2 := in_nI h (by decide)
  rw [h2, show (1 : Int32) = nI 1 from rfl, i32_sub (by decide) (by rw [nI_toInt (by omega)]; omega) (by rw [nI_toInt (by omega)]; omega), nI_toInt (by omega), cl_nI (by omega)]
  omega
theorem in_lt {x : Int32} {n : Nat} (h0 : ¬ x < 0) (h : cl x < n) (hn : n < 2 ^ 31) : vp_in x n := by
  rw [(pos_nI h0).1]; exact vp_in_nI h hn
theorem ask_cases (z : SG) (cv k i : Int32) : (ask z cv k i = 1 ∧ z.1 2 (slot cv k) < 0) ∨ (ask z cv k i = 0 ∧ ¬ z.1 2 (slot cv k) < 0 ∧ inR i (cl (z.1 1 (cl (z.1 2 (slot cv k)))))) ∨ (ask z cv k i = 2 ∧ ¬ z.1 2 (slot cv k) < 0 ∧ ¬ inR i (cl (z.1 1 (cl (z.1 2 (slot cv k)))))) := by
  unfold ask
  by_cases h1 : z.1 2 (slot cv k) < 0
  · rw [if_pos h1]; exact Or.inl ⟨rfl, h1⟩
  · rw [if_neg h1]
    by_cases h2 : inR i (cl (z.1 1 (cl (z.1 2 (slot cv k)))))
    · rw [if_pos h2]; exact Or.inr (Or.inl ⟨rfl, h1, h2⟩)
    · rw [if_neg h2]; exact Or.inr (Or.inr ⟨rfl, h1, h2⟩)
theorem ask_0 {z : SG} {cv k i : Int32} (h : ask z cv k i = 0) : ¬ z.1 2 (slot cv k) < 0 ∧ inR i (cl (z.1 1 (cl (z.1 2 (slot cv k))))) := by
  rcases ask_cases z cv k i with ⟨h1, -⟩ | ⟨-, h1⟩ | ⟨h1, -⟩
  · rw [h] at h1; exact absurd h1 (by decide)
  · exact h1
  · rw [h] at h1; exact absurd h1 (by decide)
/-- the place of an item among the reference's -/
theorem itm_ix {n : Nat} {z : SG} (h : INV n z) (hn : n ≤ 512) {cv k i : Int32} (hk : inR k 6) (h0 : ask z cv k i = 0) : 16 * z.1 2 (slot cv k) + i = nI (itm z cv k i) ∧ itm z cv k i < 9600 ∧ cl i < 16 := by
  obtain ⟨h1, h2⟩ := ask_0 h0
  have h3 := h.sl hn (slot_lt (cv := cv) hk).2.1 h1
  have h4 := in_cl h3.2
  have h5 := in_cl h2
  have e1 := (pos_nI h1).1
  have e2 := in_nI h2 (by omega)
  unfold itm
  refine ⟨?_, by omega, by omega⟩
  conv => lhs; rw [e1, e2, show (16 : Int32) = nI 16 from rfl, pk_mul, nI_add]
set_option maxHeartbeats 4000000 in
set_option maxRecDepth 100000 in
theorem c_X5_asked (l : Launch) (D : va_G) (cT : Nat → ClassId) (H : Heap) {M : hmp} {a : Nat → Nat} {z : SG} (hP : HPr D M H) (hR : RS cT a M z) {n : Nat} (hI : INV n z) (hn : n ≤ 512) (cv k i : Int32) (hk : inR k 6) : Met l yX5_asked (wz yX5_asked cX5_asked 5 (some .int)) ({ frames := 1, cells := 0, slots := 0, locals := 22 } : Room) (pP D cT [.ref (a 0), .int cv, .int k, .int i] H) (qi (fun r => r = ask z cv k i) H) 0 0 (fun _ => False) := by
  refine mk_p (by decide +kernel) (Nat.le_of_ble_eq_true rfl) ?_
  intro p e s m args below meth c S hK hs hr hlocks ls hl
  have hx := S.1
  have hb := S.2.1
  have hml := S.2.2.1
  have hown := S.2.2.2.1
  have hts := S.2.2.2.2
  have hl : lv_has ls 5 [(0, .ref (a 0)), (1, .int cv), (2, .int k), (3, .int i)] := hl
  have hs1 := slot_lt (cv := cv) hk
  refine lv_aload_n hx hb dX5_asked_0 rfl (lv_at hl 0 rfl) ?_
  refine hm_get S hK hP cI5 (RS.c0 hR) 3 (by decide) w_2_103 rfl dX5_asked_1 ?_
  refine lv_iload_n hx hb dX5_asked_4 rfl (lv_at hl 1 rfl) ?_
  refine lv_iload_n hx hb dX5_asked_5 rfl (lv_at hl 2 rfl) ?_
  refine pc_i (rS (rest := [.ref (a 3)]) S hK (c_X5_slotOf l D cT H cv k) sm_X5_slotOf w_2_174 ⟨Nat.le_of_ble_eq_true rfl, Nat.le_of_ble_eq_true rfl⟩ ⟨rfl, rfl⟩ rfl hl.1 rfl (Nat.le_of_ble_eq_true rfl) dX5_asked_6 ⟨Nat.le_of_ble_eq_true rfl, Nat.le_of_ble_eq_true rfl⟩) (fun r1 hr1 => ?_)
  subst hr1
  refine hm_iald S hK hP (RS.c3 hR) hs1.1 dX5_asked_9 ?_
  refine lv_istore (lv' := [(4, .int (z.1 2 (Int32.toNatClampNeg (if cv = 0 then k else 6 + k)))), (0, .ref (a 0)), (1, .int cv), (2, .int k), (3, .int i)]) hx hb dX5_asked_10 hl (by decide) rfl (fun ls hl => ?_)
  refine lv_iload hx hb dX5_asked_12 (lv_at hl 0 rfl) ?_
  refine lv_if_ge (tgt := 21) hx hb dX5_asked_14 (by decide) (fun c14 => ?_) (fun c14 => ?_)
  · replace c14 := Int32.not_lt.mpr c14
    have hq := hI.sl hn hs1.2.1 c14
    refine lv_iload_n hx hb dX5_asked_21 rfl (lv_at hl 4 rfl) ?_
    refine lv_iconst (v := 0) hx hb dX5_asked_22 (by decide) ?_
    refine lv_aload_n hx hb dX5_asked_23 rfl (lv_at hl 1 rfl) ?_
    refine hm_get S hK hP cI5 (RS.c0 hR) 1 (by decide) w_2_101 rfl dX5_asked_24 ?_
    refine lv_iload hx hb dX5_asked_27 (lv_at hl 0 rfl) ?_
    refine hm_iald S hK hP (RS.c1 hR) (in_lt c14 (Nat.lt_trans hq.1 (by decide)) (by decide)) dX5_asked_29 ?_
    refine lv_iconst (v := 1) hx hb dX5_asked_30 (by decide) ?_
    refine lv_isub hx hb dX5_asked_31 ?_
    refine pc_b (rS (rest := []) S hK (c_X5_in l D cT H i 0 (z.1 1 (cl (z.1 2 (slot cv k))) - 1) (n := cl (z.1 1 (cl (z.1 2 (slot cv k))))) (by decide) (sz_m1 hq.2)) sm_X5_in w_2_171 ⟨Nat.le_of_ble_eq_true rfl, Nat.le_of_ble_eq_true rfl⟩ ⟨rfl, rfl⟩ rfl hl.1 rfl (Nat.le_of_ble_eq_true rfl) dX5_asked_32 ⟨Nat.le_of_ble_eq_true rfl, Nat.le_of_ble_eq_true rfl⟩) (fun c32 => ?_) (fun c32 => ?_)
    · skip
      refine lv_if_eq (tgt := 42) hx hb dX5_asked_35 (by decide) (fun h => absurd h (by decide)) (fun _ => ?_)
      refine lv_iconst (v := 0) hx hb dX5_asked_38 (by decide) ?_
      refine lv_goto (tgt := 43) hx hb dX5_asked_39 (by decide) ?_
      refine pr_i S hs hr hlocks dX5_asked_43 ?_
      exact ((if_neg c14).trans (if_pos c32)).symm
    · skip
      refine lv_if_eq (tgt := 42) hx hb dX5_asked_35 (by decide) (fun _ => ?_) (fun h => absurd (by decide) h)
      refine lv_iconst (v := 2) hx hb dX5_asked_42 (by decide) ?_
      refine pr_i S hs hr hlocks dX5_asked_43 ?_
      exact ((if_neg c14).trans (if_neg c32)).symm
  · replace c14 := Int32.not_le.mp c14
    refine lv_iconst (v := 1) hx hb dX5_asked_17 (by decide) ?_
    refine lv_goto (tgt := 43) hx hb dX5_asked_18 (by decide) ?_
    refine pr_i S hs hr hlocks dX5_asked_43 ?_
    exact (if_pos c14).symm
set_option maxHeartbeats 4000000 in
set_option maxRecDepth 100000 in
theorem c_X5_item (l : Launch) (D : va_G) (cT : Nat → ClassId) (H : Heap) {M : hmp} {a : Nat → Nat} {z : SG} (hP : HPr D M H) (hR : RS cT a M z) {n : Nat} (hI : INV n z) (hn : n ≤ 512) (cv k i : Int32) (hk : inR k 6) (h0 : ask z cv k i = 0) : Met l yX5_item (wz yX5_item cX5_item 4 (some .double)) ({ frames := 1, cells := 0, slots := 0, locals := 21 } : Room) (pP D cT [.ref (a 0), .int cv, .int k, .int i] H) (qd (fun r => r = z.2.1 0 (itm z cv k i)) H) 0 0 (fun _ => False) := by
  refine mk_p (by decide +kernel) (Nat.le_of_ble_eq_true rfl) ?_
  intro p e s m args below meth c S hK hs hr hlocks ls hl
  have hx := S.1
  have hb := S.2.1
  have hml := S.2.2.1
  have hown := S.2.2.2.1
  have hts := S.2.2.2.2
  have hl : lv_has ls 4 [(0, .ref (a 0)), (1, .int cv), (2, .int k), (3, .int i)] := hl
  have hs1 := slot_lt (cv := cv) hk
  have hix := itm_ix hI hn hk h0
  refine lv_aload_n hx hb dX5_item_0 rfl (lv_at hl 0 rfl) ?_
  refine hm_get S hK hP cI5 (RS.c0 hR) 2 (by decide) w_2_102 rfl dX5_item_1 ?_
  refine lv_bipush (v := 16) hx hb dX5_item_4 (by decide) ?_
  refine lv_aload_n hx hb dX5_item_6 rfl (lv_at hl 0 rfl) ?_
  refine hm_get S hK hP cI5 (RS.c0 hR) 3 (by decide) w_2_103 rfl dX5_item_7 ?_
  refine lv_iload_n hx hb dX5_item_10 rfl (lv_at hl 1 rfl) ?_
  refine lv_iload_n hx hb dX5_item_11 rfl (lv_at hl 2 rfl) ?_
  refine pc_i (rS (rest := [.ref (a 3), .int 16, .ref (a 2)]) S hK (c_X5_slotOf l D cT H cv k) sm_X5_slotOf w_2_174 ⟨Nat.le_of_ble_eq_true rfl, Nat.le_of_ble_eq_true rfl⟩ ⟨rfl, rfl⟩ rfl hl.1 rfl (Nat.le_of_ble_eq_true rfl) dX5_item_12 ⟨Nat.le_of_ble_eq_true rfl, Nat.le_of_ble_eq_true rfl⟩) (fun r1 hr1 => ?_)
  subst hr1
  refine hm_iald S hK hP (RS.c3 hR) hs1.1 dX5_item_15 ?_
  refine lv_imul hx hb dX5_item_16 ?_
  refine lv_iload_n hx hb dX5_item_17 rfl (lv_at hl 3 rfl) ?_
  refine lv_iadd hx hb dX5_item_18 ?_
  refine hm_dald S hK hP (RS.c2 hR) (by show vp_in (16 * z.1 2 (slot cv k) + i) 9600; rw [hix.1]; exact vp_in_nI hix.2.1 (by decide)) dX5_item_19 ?_
  refine pr_d S hs hr hlocks dX5_item_20 ?_
  exact congrArg (z.2.1 0) (by show cl _ = _; rw [show Int32.toNatClampNeg (if cv = 0 then k else 6 + k) = slot cv k from rfl, hix.1, cl_nI (by omega)])
