section HX
variable {p : Program} {l : Launch} {e : Env} {R : Room} {s : State} {m : MethodId} {args : Array Value} {below : List Frame} {meth : Method} {c : Code} {H : Heap} {locs : List Loc} {cells slots : Nat} {Q : State → Prop}
variable {cc : ByteArray} {pc nL : Nat} {ls : Array Slot} {rest : List Value} {D : va_G} {cT : Nat → ClassId} {M : hmp} {own : String} {fu fd : Nat → UInt64} {ad : Nat → Nat → Nat} {z : SG}
theorem hx_rows (S : CallFix p m c cc nL s args lw_all own) (hK : KK D cT s) (hP : HPr D M H) (hX : XS cT fu fd ad M z) (cv : Int32) {i : Int32} (hin : inR i 6) (hdg : decode cc pc = .ok (.aaload, 1)) (k0 : z.1 2 (slot cv i) < 0 → W p l e R s m args below meth c H locs cells slots Q (F0 m (pc + 1) ls (.null :: rest))) (k1 : ¬ z.1 2 (slot cv i) < 0 → W p l e R s m args below meth c H locs cells slots Q (F0 m (pc + 1) ls (.ref (ad 1 (cl (z.1 2 (slot cv i)))) :: rest))) : W p l e R s m args below meth c H locs cells slots Q (F0 m pc ls (.int i :: .ref (ad 0 (rws cv)) :: rest)) := by
  have hlt := in_cl hin
  by_cases w : z.1 2 (slot cv i) < 0
  · have e0 : ((fun k => if k < 6 then orf (ad 1) (z.1 2 (if cv = 0 then k else 6 + k)) else none) (cl i)) = none := (if_pos hlt).trans (by rw [← (slot_lt (cv := cv) hin).2.2]; exact if_pos w)
    refine hm_aaldA S hK hP (hX.rows cv) hin hdg ?_
    have k := k0 w
    show W p l e R s m args below meth c H locs cells slots Q (F0 m (pc + 1) ls (va_rf ((fun k => if k < 6 then orf (ad 1) (z.1 2 (if cv = 0 then k else 6 + k)) else none) (cl i)) :: rest))
    rw [e0]; exact k
  · have e0 : ((fun k => if k < 6 then orf (ad 1) (z.1 2 (if cv = 0 then k else 6 + k)) else none) (cl i)) = some (ad 1 (cl (z.1 2 (slot cv i)))) := (if_pos hlt).trans (by rw [← (slot_lt (cv := cv) hin).2.2]; exact if_neg w)
    refine hm_aaldA S hK hP (hX.rows cv) hin hdg ?_
    have k := k1 w
    show W p l e R s m args below meth c H locs cells slots Q (F0 m (pc + 1) ls (va_rf ((fun k => if k < 6 then orf (ad 1) (z.1 2 (if cv = 0 then k else 6 + k)) else none) (cl i)) :: rest))
    rw [e0]; exact k
theorem hx_effs (S : CallFix p m c cc nL s args lw_all own) (hK : KK D cT s) (hP : HPr D M H) (hX : XS cT fu fd ad M z)  {i : Int32} (hin : inR i 6) (hdg : decode cc pc = .ok (.aaload, 1)) (k0 : z.1 4 (cl i) < 0 → W p l e R s m args below meth c H locs cells slots Q (F0 m (pc + 1) ls (.null :: rest))) (k1 : ¬ z.1 4 (cl i) < 0 → W p l e R s m args below meth c H locs cells slots Q (F0 m (pc + 1) ls (.ref (ad 2 (cl (z.1 4 (cl i)))) :: rest))) : W p l e R s m args below meth c H locs cells slots Q (F0 m pc ls (.int i :: .ref (ad 0 6) :: rest)) := by
  have hlt := in_cl hin
  by_cases w : z.1 4 (cl i) < 0
  · have e0 : ((fun k => if k < 6 then orf (ad 2) (z.1 4 k) else none) (cl i)) = none := (if_pos hlt).trans (if_pos w)
    refine hm_aald S hK hP 5 hX.effs rfl hin hdg ?_
    have k := k0 w
    show W p l e R s m args below meth c H locs cells slots Q (F0 m (pc + 1) ls (va_rf ((fun k => if k < 6 then orf (ad 2) (z.1 4 k) else none) (cl i)) :: rest))
    rw [e0]; exact k
  · have e0 : ((fun k => if k < 6 then orf (ad 2) (z.1 4 k) else none) (cl i)) = some (ad 2 (cl (z.1 4 (cl i)))) := (if_pos hlt).trans (if_neg w)
    refine hm_aald S hK hP 5 hX.effs rfl hin hdg ?_
    have k := k1 w
    show W p l e R s m args below meth c H locs cells slots Q (F0 m (pc + 1) ls (va_rf ((fun k => if k < 6 then orf (ad 2) (z.1 4 k) else none) (cl i)) :: rest))
    rw [e0]; exact k
theorem hx_rcks (S : CallFix p m c cc nL s args lw_all own) (hK : KK D cT s) (hP : HPr D M H) (hX : XS cT fu fd ad M z)  {i : Int32} (hin : inR i 3) (hdg : decode cc pc = .ok (.aaload, 1)) (k0 : z.1 5 (cl i) < 0 → W p l e R s m args below meth c H locs cells slots Q (F0 m (pc + 1) ls (.null :: rest))) (k1 : ¬ z.1 5 (cl i) < 0 → W p l e R s m args below meth c H locs cells slots Q (F0 m (pc + 1) ls (.ref (ad 3 (cl i)) :: rest))) : W p l e R s m args below meth c H locs cells slots Q (F0 m pc ls (.int i :: .ref (ad 0 7) :: rest)) := by
  have hlt := in_cl hin
  by_cases w : z.1 5 (cl i) < 0
  · have e0 : ((fun k => if k < 3 then (if z.1 5 k < 0 then none else some (ad 3 k)) else none) (cl i)) = none := (if_pos hlt).trans (if_pos w)
    refine hm_aald S hK hP 7 hX.rcks rfl hin hdg ?_
    have k := k0 w
    show W p l e R s m args below meth c H locs cells slots Q (F0 m (pc + 1) ls (va_rf ((fun k => if k < 3 then (if z.1 5 k < 0 then none else some (ad 3 k)) else none) (cl i)) :: rest))
    rw [e0]; exact k
  · have e0 : ((fun k => if k < 3 then (if z.1 5 k < 0 then none else some (ad 3 k)) else none) (cl i)) = some (ad 3 (cl i)) := (if_pos hlt).trans (if_neg w)
    refine hm_aald S hK hP 7 hX.rcks rfl hin hdg ?_
    have k := k1 w
    show W p l e R s m args below meth c H locs cells slots Q (F0 m (pc + 1) ls (va_rf ((fun k => if k < 3 then (if z.1 5 k < 0 then none else some (ad 3 k)) else none) (cl i)) :: rest))
    rw [e0]; exact k
theorem hx_hds (S : CallFix p m c cc nL s args lw_all own) (hK : KK D cT s) (hP : HPr D M H) (hX : XS cT fu fd ad M z)  {i : Int32} (hin : inR i 4) (hdg : decode cc pc = .ok (.aaload, 1)) (k0 : z.1 7 (cl i) = 0 → W p l e R s m args below meth c H locs cells slots Q (F0 m (pc + 1) ls (.null :: rest))) (k1 : ¬ z.1 7 (cl i) = 0 → W p l e R s m args below meth c H locs cells slots Q (F0 m (pc + 1) ls (.ref (ad 5 (cl i)) :: rest))) : W p l e R s m args below meth c H locs cells slots Q (F0 m pc ls (.int i :: .ref (ad 0 8) :: rest)) := by
  have hlt := in_cl hin
  by_cases w : z.1 7 (cl i) = 0
  · have e0 : ((fun k => if k < 4 then (if z.1 7 k = 0 then none else some (ad 5 k)) else none) (cl i)) = none := (if_pos hlt).trans (if_pos w)
    refine hm_aald S hK hP 6 hX.hds rfl hin hdg ?_
    have k := k0 w
    show W p l e R s m args below meth c H locs cells slots Q (F0 m (pc + 1) ls (va_rf ((fun k => if k < 4 then (if z.1 7 k = 0 then none else some (ad 5 k)) else none) (cl i)) :: rest))
    rw [e0]; exact k
  · have e0 : ((fun k => if k < 4 then (if z.1 7 k = 0 then none else some (ad 5 k)) else none) (cl i)) = some (ad 5 (cl i)) := (if_pos hlt).trans (if_neg w)
    refine hm_aald S hK hP 6 hX.hds rfl hin hdg ?_
    have k := k1 w
    show W p l e R s m args below meth c H locs cells slots Q (F0 m (pc + 1) ls (va_rf ((fun k => if k < 4 then (if z.1 7 k = 0 then none else some (ad 5 k)) else none) (cl i)) :: rest))
    rw [e0]; exact k
theorem hx_plc (S : CallFix p m c cc nL s args lw_all own) (hK : KK D cT s) (hP : HPr D M H) (hX : XS cT fu fd ad M z) {r : Nat} (hr : r < 3) (h5 : ¬ z.1 5 r < 0) {i : Int32} (hin : inR i 3) (hdg : decode cc pc = .ok (.aaload, 1)) (k0 : z.1 6 (3 * r + cl i) < 0 → W p l e R s m args below meth c H locs cells slots Q (F0 m (pc + 1) ls (.null :: rest))) (k1 : ¬ z.1 6 (3 * r + cl i) < 0 → W p l e R s m args below meth c H locs cells slots Q (F0 m (pc + 1) ls (.ref (ad 2 (cl (z.1 6 (3 * r + cl i)))) :: rest))) : W p l e R s m args below meth c H locs cells slots Q (F0 m pc ls (.int i :: .ref (ad 4 r) :: rest)) := by
  have hlt := in_cl hin
  by_cases w : z.1 6 (3 * r + cl i) < 0
  · have e0 : ((fun j => if j < 3 then orf (ad 2) (z.1 6 (3 * r + j)) else none) (cl i)) = none := (if_pos hlt).trans (if_pos w)
    refine hm_aald S hK hP 5 (hX.plc hr h5) rfl hin hdg ?_
    have k := k0 w
    show W p l e R s m args below meth c H locs cells slots Q (F0 m (pc + 1) ls (va_rf ((fun j => if j < 3 then orf (ad 2) (z.1 6 (3 * r + j)) else none) (cl i)) :: rest))
    rw [e0]; exact k
  · have e0 : ((fun j => if j < 3 then orf (ad 2) (z.1 6 (3 * r + j)) else none) (cl i)) = some (ad 2 (cl (z.1 6 (3 * r + cl i)))) := (if_pos hlt).trans (if_neg w)
    refine hm_aald S hK hP 5 (hX.plc hr h5) rfl hin hdg ?_
    have k := k1 w
    show W p l e R s m args below meth c H locs cells slots Q (F0 m (pc + 1) ls (va_rf ((fun j => if j < 3 then orf (ad 2) (z.1 6 (3 * r + j)) else none) (cl i)) :: rest))
    rw [e0]; exact k
end HX
theorem x_doubleOf (l : Launch) (D : va_G) (cT : Nat → ClassId) (H : Heap) {M : hmp} {nb ua da : Nat} {fu fd : Nat → UInt64} (hP : HPr D M H) (hN : NUM cT M nb ua da fu fd) (b : Int64) (hf : fin64 b.toUInt64) : Met l yX2_doubleOf (wz yX2_doubleOf cX2_doubleOf 5 (some .double)) ({ frames := 4, cells := 0, slots := 0, locals := 103 } : Room) (pP D cT [.ref nb, .long b] H) (qd (fun r => r = b.toUInt64) H) 0 0 (fun _ => False) := by
  obtain ⟨n, hn, rfl⟩ := wb_of b
  exact c_X2_doubleOf l D cT H hP hN n hn hf
theorem x_floatOf (l : Launch) (D : va_G) (cT : Nat → ClassId) (H : Heap) {M : hmp} {nb ua da : Nat} {fu fd : Nat → UInt64} (hP : HPr D M H) (hN : NUM cT M nb ua da fu fd) (b : Int64) (hf : fin32 (lo32 b)) : Met l yX2_floatOf (wz yX2_floatOf cX2_floatOf 5 (some .float)) ({ frames := 4, cells := 0, slots := 0, locals := 103 } : Room) (pP D cT [.ref nb, .long b] H) (qf (fun r => r = lo32 b) H) 0 0 (fun _ => False) := by
  obtain ⟨n, hn, rfl⟩ := wb_of b
  exact c_X2_floatOf l D cT H hP hN n hn hf
set_option maxHeartbeats 4000000 in
set_option maxRecDepth 100000 in
theorem c_X4_tell (l : Launch) (D : va_G) (cT : Nat → ClassId) {M : hmp} {fu fd : Nat → UInt64} {ad : Nat → Nat → Nat} {z : SG} {n : Nat} (hX : XS cT fu fd ad M z) (hI : INV n z) (hn : n < 512) (x : Int64) (sz : Nat) : Met l yX4_tell (wz yX4_tell cX4_tell 3 (some .int)) ({ frames := 0, cells := 0, slots := 0, locals := 0 } : Room) (mP D cT [.ref (ad 0 0), .long x] M sz) (mQi (fun rr MM => rr = 1 ∧ XS cT fu fd ad MM (toldS z x)) D M sz) 0 0 (FA M sz) := by
  refine mk_m (by decide +kernel) (Nat.le_of_ble_eq_true rfl) ?_
  intro p e s m args below meth c S hK hsz hM hr hlocks hnm ls hl
  have hx := S.1
  have hb := S.2.1
  have hml := S.2.2.1
  have hown := S.2.2.2.1
  have hts := S.2.2.2.2
  have hl : lv_has ls 3 [(0, .ref (ad 0 0)), (1, .long x)] := hl
  refine lv_aload_n hx hb dX4_tell_0 rfl (lv_at hl 0 rfl) ?_
  refine lv_lload_n hx hb dX4_tell_1 rfl (lv_at hl 1 rfl) ?_
  refine hm_put S hK hM cI4 (XS.c0 hX) 9 (by decide) w_1_50 rfl rfl rfl (Nat.le_of_ble_eq_true rfl) dX4_tell_2 (fun H locs M1 hM1 hM => ?_)
  have hX := XS.fL (k := 1) (x0 := 0) (x := x) (by decide) hX hM1
  refine lv_iconst (v := 1) hx hb dX4_tell_5 (by decide) ?_
  refine mr_i S hM hr hlocks dX4_tell_6 ⟨Nat.le_of_ble_eq_true rfl, Nat.le_of_ble_eq_true rfl⟩ ?_
  exact ⟨rfl, hX⟩
set_option maxHeartbeats 4000000 in
set_option maxRecDepth 100000 in
theorem c_X4_rowsOf (l : Launch) (D : va_G) (cT : Nat → ClassId) (H : Heap) {M : hmp} (hP : HPr D M H) {fu fd : Nat → UInt64} {ad : Nat → Nat → Nat} {z : SG} (hX : XS cT fu fd ad M z) (cv : Int32) : Met l yX4_rowsOf (wz yX4_rowsOf cX4_rowsOf 2 (some (.array (.array .double)))) ({ frames := 0, cells := 0, slots := 0, locals := 0 } : Room) (pP D cT [.ref (ad 0 0), .int cv] H) (qa (ad 0 (rws cv)) H) 0 0 (fun _ => False) := by
  refine mk_p (by decide +kernel) (Nat.le_of_ble_eq_true rfl) ?_
  intro p e s m args below meth c S hK hs hr hlocks ls hl
  have hx := S.1
  have hb := S.2.1
  have hml := S.2.2.1
  have hown := S.2.2.2.1
  have hts := S.2.2.2.2
  have hl : lv_has ls 2 [(0, .ref (ad 0 0)), (1, .int cv)] := hl
  refine lv_iload_n hx hb dX4_rowsOf_0 rfl (lv_at hl 1 rfl) ?_
  refine lv_if_eq (tgt := 11) hx hb dX4_rowsOf_1 (by decide) (fun c1 => ?_) (fun c1 => ?_)
  · skip
    refine lv_aload_n hx hb dX4_rowsOf_11 rfl (lv_at hl 0 rfl) ?_
    refine hm_get S hK hP cI4 (XS.c0 hX) 1 (by decide) w_1_42 rfl dX4_rowsOf_12 ?_
    rw [show ad 0 (rws cv) = (ad 0 4) from congrArg (ad 0) (if_pos c1)]
    exact pr_a S hr (Or.inr ⟨_, rfl⟩) hlocks dX4_rowsOf_15
  · skip
    refine lv_aload_n hx hb dX4_rowsOf_4 rfl (lv_at hl 0 rfl) ?_
    refine hm_get S hK hP cI4 (XS.c0 hX) 2 (by decide) w_1_43 rfl dX4_rowsOf_5 ?_
    refine lv_goto (tgt := 15) hx hb dX4_rowsOf_8 (by decide) ?_
    rw [show ad 0 (rws cv) = (ad 0 5) from congrArg (ad 0) (if_neg c1)]
    exact pr_a S hr (Or.inr ⟨_, rfl⟩) hlocks dX4_rowsOf_15
set_option maxHeartbeats 4000000 in
set_option maxRecDepth 100000 in
theorem c_X4_isSetHead (l : Launch) (D : va_G) (cT : Nat → ClassId) (H : Heap) {M : hmp} (hP : HPr D M H) {fu fd : Nat → UInt64} {ad : Nat → Nat → Nat} {z : SG} (hX : XS cT fu fd ad M z) (h : Int32) : Met l yX4_isSetHead (wz yX4_isSetHead cX4_isSetHead 2 (some .boolean)) ({ frames := 1, cells := 0, slots := 0, locals := 21 } : Room) (pP D cT [.ref (ad 0 0), .int h] H) (qi (fun r => r = if inR h 4 ∧ ¬ z.1 7 (cl h) = 0 then 1 else 0) H) 0 0 (fun _ => False) := by
  refine mk_p (by decide +kernel) (Nat.le_of_ble_eq_true rfl) ?_
  intro p e s m args below meth c S hK hs hr hlocks ls hl
  have hx := S.1
  have hb := S.2.1
  have hml := S.2.2.1
  have hown := S.2.2.2.1
  have hts := S.2.2.2.2
  have hl : lv_has ls 2 [(0, .ref (ad 0 0)), (1, .int h)] := hl
  refine lv_iload_n hx hb dX4_isSetHead_0 rfl (lv_at hl 1 rfl) ?_
  refine lv_iconst (v := 4) hx hb dX4_isSetHead_1 (by decide) ?_
  refine pc_b (rS (rest := []) S hK (c_X4_isBelow l D cT H h 4 (n := 4) (by decide) rfl) sm_X4_isBelow w_1_77 ⟨Nat.le_of_ble_eq_true rfl, Nat.le_of_ble_eq_true rfl⟩ ⟨rfl, rfl⟩ rfl hl.1 rfl (Nat.le_of_ble_eq_true rfl) dX4_isSetHead_2 ⟨Nat.le_of_ble_eq_true rfl, Nat.le_of_ble_eq_true rfl⟩) (fun c2 => ?_) (fun c2 => ?_)
  · skip
    refine lv_if_eq (tgt := 21) hx hb dX4_isSetHead_5 (by decide) (fun h => absurd h (by decide)) (fun _ => ?_)
    refine lv_aload_n hx hb dX4_isSetHead_8 rfl (lv_at hl 0 rfl) ?_
    refine hm_get S hK hP cI4 (XS.c0 hX) 5 (by decide) w_1_46 rfl dX4_isSetHead_9 ?_
    refine lv_iload_n hx hb dX4_isSetHead_12 rfl (lv_at hl 1 rfl) ?_
    refine hx_hds S hK hP hX c2 dX4_isSetHead_13 (fun n13 => ?_) (fun n13 => ?_)
    · skip
      refine lv_ifnullN (tgt := 21) hx hb dX4_isSetHead_14 (by decide) ?_
      refine lv_iconst (v := 0) hx hb dX4_isSetHead_21 (by decide) ?_
      refine pr_z S hs hr hlocks rfl dX4_isSetHead_22 ?_
      exact (if_neg (fun q => q.2 n13)).symm
    · skip
      refine lv_ifnull hx hb dX4_isSetHead_14 ?_
      refine lv_iconst (v := 1) hx hb dX4_isSetHead_17 (by decide) ?_
      refine lv_goto (tgt := 22) hx hb dX4_isSetHead_18 (by decide) ?_
      refine pr_z S hs hr hlocks rfl dX4_isSetHead_22 ?_
      exact (if_pos ⟨c2, n13⟩).symm
  · skip
    refine lv_if_eq (tgt := 21) hx hb dX4_isSetHead_5 (by decide) (fun _ => ?_) (fun h => absurd (by decide) h)
    refine lv_iconst (v := 0) hx hb dX4_isSetHead_21 (by decide) ?_
    refine pr_z S hs hr hlocks rfl dX4_isSetHead_22 ?_
    exact (if_neg (fun q => c2 q.1)).symm
set_option maxHeartbeats 4000000 in
set_option maxRecDepth 100000 in
theorem c_X4_failed (l : Launch) (D : va_G) (cT : Nat → ClassId) (H : Heap) {M : hmp} (hP : HPr D M H) {fu fd : Nat → UInt64} {ad : Nat → Nat → Nat} {z : SG} (hX : XS cT fu fd ad M z)  : Met l yX4_failed (wz yX4_failed cX4_failed 1 (some .int)) ({ frames := 1, cells := 0, slots := 0, locals := 20 } : Room) (pP D cT [.ref (ad 0 0)] H) (qi (fun rr => rr = (sp_failed z).1) H) 0 0 (fun _ => False) := by
  refine mk_p (by decide +kernel) (Nat.le_of_ble_eq_true rfl) ?_
  intro p e s m args below meth c S hK hs hr hlocks ls hl
  have hx := S.1
  have hb := S.2.1
  have hml := S.2.2.1
  have hown := S.2.2.2.1
  have hts := S.2.2.2.2
  have hl : lv_has ls 1 [(0, .ref (ad 0 0))] := hl
  refine lv_aload_n hx hb dX4_failed_0 rfl (lv_at hl 0 rfl) ?_
  refine hm_get S hK hP cI4 (XS.c0 hX) 7 (by decide) w_1_48 rfl dX4_failed_1 ?_
  refine lv_if_ne (tgt := 11) hx hb dX4_failed_4 (by decide) (fun c4 => ?_) (fun c4 => ?_)
  · skip
    refine lv_aload_n hx hb dX4_failed_11 rfl (lv_at hl 0 rfl) ?_
    refine hm_get S hK hP cI4 (XS.c0 hX) 7 (by decide) w_1_48 rfl dX4_failed_12 ?_
    refine pc_i (rS (rest := []) S hK (c_X4_answerFor l D cT H (z.1 0 2)) sm_X4_answerFor w_1_104 ⟨Nat.le_of_ble_eq_true rfl, Nat.le_of_ble_eq_true rfl⟩ ⟨rfl, rfl⟩ rfl hl.1 rfl (Nat.le_of_ble_eq_true rfl) dX4_failed_15 ⟨Nat.le_of_ble_eq_true rfl, Nat.le_of_ble_eq_true rfl⟩) (fun r1 hr1 => ?_)
    subst hr1
    refine pr_i S hs hr hlocks dX4_failed_18 ?_
    exact (if_neg c4).symm
  · skip
    refine lv_iconst (v := 0) hx hb dX4_failed_7 (by decide) ?_
    refine lv_goto (tgt := 18) hx hb dX4_failed_8 (by decide) ?_
    refine pr_i S hs hr hlocks dX4_failed_18 ?_
    exact (if_pos c4).symm
set_option maxHeartbeats 4000000 in
set_option maxRecDepth 100000 in
theorem c_X4_told (l : Launch) (D : va_G) (cT : Nat → ClassId) (H : Heap) {M : hmp} (hP : HPr D M H) {fu fd : Nat → UInt64} {ad : Nat → Nat → Nat} {z : SG} (hX : XS cT fu fd ad M z)  : Met l yX4_told (wz yX4_told cX4_told 1 (some .long)) ({ frames := 0, cells := 0, slots := 0, locals := 0 } : Room) (pP D cT [.ref (ad 0 0)] H) (ql (fun rr => rr = z.2.2 1 1) H) 0 0 (fun _ => False) := by
  refine mk_p (by decide +kernel) (Nat.le_of_ble_eq_true rfl) ?_
  intro p e s m args below meth c S hK hs hr hlocks ls hl
  have hx := S.1
  have hb := S.2.1
  have hml := S.2.2.1
  have hown := S.2.2.2.1
  have hts := S.2.2.2.2
  have hl : lv_has ls 1 [(0, .ref (ad 0 0))] := hl
  refine lv_aload_n hx hb dX4_told_0 rfl (lv_at hl 0 rfl) ?_
  refine hm_get S hK hP cI4 (XS.c0 hX) 9 (by decide) w_1_50 rfl dX4_told_1 ?_
  refine pr_l S hs hr hlocks dX4_told_4 ?_
  rfl
set_option maxHeartbeats 4000000 in
set_option maxRecDepth 100000 in
theorem c_X4_addToMix (l : Launch) (D : va_G) (cT : Nat → ClassId) {M : hmp} {fu fd : Nat → UInt64} {ad : Nat → Nat → Nat} {z : SG} {n : Nat} (hX : XS cT fu fd ad M z) (hI : INV n z) (hn : n ≤ 512) (i : Int32) (v : UInt64) (hi : inR i 8) (hv : fin64 v) (sz : Nat) : Met l yX4_addToMix (wz yX4_addToMix cX4_addToMix 4 none) ({ frames := 1, cells := 0, slots := 0, locals := 23 } : Room) (mP D cT [.ref (ad 0 0), .int i, .double v] M sz) (mQv (fun MM => XS cT fu fd ad MM (setF z 4 (cl i) (FP.f2d (heldf (FP.dadd (z.2.1 4 (cl i)) v))))) D M sz) 0 0 (FA M sz) := by
  refine mk_m (by decide +kernel) (Nat.le_of_ble_eq_true rfl) ?_
  intro p e s m args below meth c S hK hsz hM hr hlocks hnm ls hl
  have hx := S.1
  have hb := S.2.1
  have hml := S.2.2.1
  have hown := S.2.2.2.1
  have hts := S.2.2.2.2
  have hl : lv_has ls 4 [(0, .ref (ad 0 0)), (1, .int i), (2, .double v)] := hl
  obtain ⟨xm, hxm, hxe⟩ := hI.2.2.2.2 (cl i) (in_cl hi)
  refine lv_aload_n hx hb dX4_addToMix_0 rfl (lv_at hl 0 rfl) ?_
  refine hm_get S hK hM.pr cI4 (XS.c0 hX) 6 (by decide) w_1_47 rfl dX4_addToMix_1 ?_
  refine lv_iload_n hx hb dX4_addToMix_4 rfl (lv_at hl 1 rfl) ?_
  refine lv_aload_n hx hb dX4_addToMix_5 rfl (lv_at hl 0 rfl) ?_
  refine hm_get S hK hM.pr cI4 (XS.c0 hX) 6 (by decide) w_1_47 rfl dX4_addToMix_6 ?_
  refine lv_iload_n hx hb dX4_addToMix_9 rfl (lv_at hl 1 rfl) ?_
  refine hm_fald S hK hM.pr hX.mixd hi dX4_addToMix_10 ?_
  refine lv_topf (fun z1 hz1 => ?_)
  have hz1 : z1 = xm := by rw [hz1]; exact (if_pos (in_cl hi)).trans (by rw [hxe]; exact d2f_f2d hxm)
  subst hz1
  refine lv_f2d hx hb dX4_addToMix_11 (n64_fin (fin_f2d hxm)) ?_
  refine lv_topd (fun z2 hz2 => ?_)
  have hz2 : z2 = (z.2.1 4 (cl i)) := by rw [hz2]; exact hxe.symm
  subst hz2
  refine lv_dload_n hx hb dX4_addToMix_12 rfl (lv_at hl 2 rfl) ?_
  refine lv_dadd hx hb dX4_addToMix_13 (n64_of (nn_add (by rw [hxe]; exact fin_f2d hxm) hv)) ?_
  refine pc_f (rS (rest := [.int i, .ref (ad 0 9)]) S hK (c_X2_held l D cT s.heap (FP.dadd (z.2.1 4 (cl i)) v) (nn_add (by rw [hxe]; exact fin_f2d hxm) hv)) sm_X2_held w_2_49 ⟨Nat.le_of_ble_eq_true rfl, Nat.le_of_ble_eq_true rfl⟩ ⟨rfl, rfl⟩ rfl hl.1 rfl (Nat.le_of_ble_eq_true rfl) dX4_addToMix_14 ⟨Nat.le_of_ble_eq_true rfl, Nat.le_of_ble_eq_true rfl⟩) (fun r3 hr3 => ?_)
  subst hr3
  refine hm_fast S hK hM hX.mixd hi dX4_addToMix_17 (fun H locs M1 hM1 hM => ?_)
  have hX := XS.uMx (in_cl hi) (d2f_f2d (heldf_fin (nn_add (by rw [hxe]; exact fin_f2d hxm) hv))) hX hM1
  refine mr_v S hM hr hlocks dX4_addToMix_18 ⟨Nat.le_of_ble_eq_true rfl, Nat.le_of_ble_eq_true rfl⟩ ?_
  exact hX
