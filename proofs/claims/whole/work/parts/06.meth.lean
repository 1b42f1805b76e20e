section MTH
variable {p : Program} {l : Launch} {e : Env} {R : Room} {s : State} {m : MethodId} {args : Array Value} {below : List Frame} {meth : Method} {c : Code} {H : Heap} {locs : List Loc} {cells slots : Nat} {Q : State → Prop}
variable {cc : ByteArray} {pc nL : Nat} {ls : Array Slot} {rest : List Value} {D : va_G} {cT : Nat → ClassId} {A : Nat → Prop} {a : Nat} {M : hmp} {H0 : Heap} {own : String} {idx : Nat}
variable {y : MethodName} {cb : ByteArray} {mL n mc ms : Nat} {ret : Option FieldType} {rm : Room} {As st0 : List Value} {b : Nat}
/-- an answer that is a cell's address, the heap as it was -/
abbrev qa (o : Nat) (H : Heap) : Array Value → State → Outcome → State → Prop := fun _ _ oc t => oc = .returned (some (.ref o)) ∧ t.heap = H
theorem pc_a {o : Nat} {arr : Array Value} (hr : va_Run p l e R s m args below meth c H locs cells slots 0 0 (F0 m pc ls st0) rest (qa o H arr) (fun _ => False)) (kk : W p l e R s m args below meth c H locs cells slots Q (F0 m (pc + 3) ls (.ref o :: rest))) : W p l e R s m args below meth c H locs cells slots Q (F0 m pc ls st0) := by
  intro T hT X
  obtain ⟨v, st₀, t, T', L, h0, X', hL, e1, e2, ⟨hv, hb⟩, st⟩ := hr T hT X
  cases hv
  have hLn : L = [] := by cases L with | nil => rfl | cons q qs => exact absurd (hL q List.mem_cons_self) id
  subst hLn
  rw [List.append_nil] at X'
  obtain ⟨t2, a1, b1⟩ := kk T' (e1.trans hb) X'
  exact ⟨t2, st t2 a1, b1⟩
/-- a method that leaves the heap: from its entry -/
theorem mk_p {Qc : Array Value → State → Outcome → State → Prop} (hy : plainFor y = true) (hlen : (lg_sl As).length ≤ mL)
    (body : ∀ p e s m args below meth c, CallFix p m c cb mL s args lw_all y.cls → KK D cT s → s.heap = H → meth.sig.returnType = ret → meth.locks = false → ∀ ls, lv_has ls mL (lv_args 0 As) → W p l e rm s m args below meth c H [] 0 0 (MQ below Qc args s 0 0 (fun _ => False)) (F0 m 0 ls [])) :
    Met l y (wz y cb mL ret) rm (pP D cT As H) Qc 0 0 (fun _ => False) := by
  refine va_MetF (cc := cb) (maxL := mL) (ret := ret) hy rfl ?_
  intro p e s m args below meth c s₁ B hml hv
  obtain ⟨rfl, hH, hK⟩ := hv
  have hts : ∀ w ∈ lw_all, w.before As.toArray s = true := fun w h => atoms_spec (ws := wz y cb mL ret) B.pre w (List.mem_cons_of_mem _ h)
  have hl := lv_entry As (n := mL) hlen
  rw [lg_entry_eq]
  rw [hH]
  exact body p e s m As.toArray below meth c ⟨B.exec, B.bytes, hml, findClass_of_methodNamed B.named, hts⟩ hK hH B.returns B.notSynchronized _ hl
theorem vF_no {s t : State} (h : t.heap = s.heap) : va_F (fun _ => False) s t := ⟨by rw [h]; exact Nat.le_refl _, fun q _ _ => by rw [h]⟩
theorem pr_i (S : CallFix p m c cc nL s args lw_all own) (hs : s.heap = H) (hr : meth.sig.returnType = some .int) (hlocks : meth.locks = false) {post : Int32 → Prop} {v : Int32} (hdg : decode cc pc = .ok (.ireturn, 1)) (hp : post v) : W p l e R s m args below meth c H [] 0 0 (MQ below (qi post H) args s 0 0 (fun _ => False)) (F0 m pc ls [.int v]) :=
  W.iret S.1 S.2.1 hr (fun t ht hW => ⟨⟨v, (), rfl, hp, ht⟩, vF_no (ht.trans hs.symm)⟩) (fun q h => absurd h List.not_mem_nil) hdg hlocks
theorem pr_z (S : CallFix p m c cc nL s args lw_all own) (hs : s.heap = H) (hr : meth.sig.returnType = some .boolean) (hlocks : meth.locks = false) {post : Int32 → Prop} {v : Int32} (hn : narrow .boolean (.int v) = .int v) (hdg : decode cc pc = .ok (.ireturn, 1)) (hp : post v) : W p l e R s m args below meth c H [] 0 0 (MQ below (qi post H) args s 0 0 (fun _ => False)) (F0 m pc ls [.int v]) :=
  W.zret S.1 S.2.1 hr hn (fun t ht hW => ⟨⟨v, (), rfl, hp, ht⟩, vF_no (ht.trans hs.symm)⟩) (fun q h => absurd h List.not_mem_nil) hdg hlocks
theorem pr_l (S : CallFix p m c cc nL s args lw_all own) (hs : s.heap = H) (hr : meth.sig.returnType = some .long) (hlocks : meth.locks = false) {post : Int64 → Prop} {v : Int64} (hdg : decode cc pc = .ok (.lreturn, 1)) (hp : post v) : W p l e R s m args below meth c H [] 0 0 (MQ below (ql post H) args s 0 0 (fun _ => False)) (F0 m pc ls [.long v]) :=
  W.lret S.1 S.2.1 hr (fun t ht hW => ⟨⟨v, (), rfl, hp, ht⟩, vF_no (ht.trans hs.symm)⟩) (fun q h => absurd h List.not_mem_nil) hdg hlocks
theorem pr_f (S : CallFix p m c cc nL s args lw_all own) (hs : s.heap = H) (hr : meth.sig.returnType = some .float) (hlocks : meth.locks = false) {post : UInt32 → Prop} {v : UInt32} (hdg : decode cc pc = .ok (.freturn, 1)) (hp : post v) : W p l e R s m args below meth c H [] 0 0 (MQ below (qf post H) args s 0 0 (fun _ => False)) (F0 m pc ls [.float v]) :=
  W.fret S.1 S.2.1 hr (fun t ht hW => ⟨⟨v, (), rfl, hp, ht⟩, vF_no (ht.trans hs.symm)⟩) (fun q h => absurd h List.not_mem_nil) hdg hlocks
theorem pr_d (S : CallFix p m c cc nL s args lw_all own) (hs : s.heap = H) (hr : meth.sig.returnType = some .double) (hlocks : meth.locks = false) {post : UInt64 → Prop} {v : UInt64} (hdg : decode cc pc = .ok (.dreturn, 1)) (hp : post v) : W p l e R s m args below meth c H [] 0 0 (MQ below (qd post H) args s 0 0 (fun _ => False)) (F0 m pc ls [.double v]) :=
  W.dret S.1 S.2.1 hr (fun t ht hW => ⟨⟨v, (), rfl, hp, ht⟩, vF_no (ht.trans hs.symm)⟩) (fun q h => absurd h List.not_mem_nil) hdg hlocks
theorem pr_a (S : CallFix p m c cc nL s args lw_all own) {rt : FieldType} (hr : meth.sig.returnType = some rt) (hrt : (∃ n, rt = .object n) ∨ ∃ t, rt = .array t) (hlocks : meth.locks = false) {v : Nat} (hdg : decode cc pc = .ok (.areturn, 1)) : W p l e R s m args below meth c H [] 0 0 (MQ below (qa v H) args s 0 0 (fun _ => False)) (F0 m pc ls [.ref v]) :=
  W.aret S.1 S.2.1 hr hrt (Or.inr ⟨v, rfl⟩) (fun t ht hW => ⟨rfl, ht⟩) (fun q h => absurd h List.not_mem_nil) hdg hlocks
/-! methods that change the world -/
abbrev mP (D : va_G) (cT : Nat → ClassId) (As : List Value) (M : hmp) (sz : Nat) : Array Value → State → Prop := va_Pc As (fun U => U.heap.size = sz ∧ HP D (fun _ => True) M U.heap ∧ KK D cT U)
abbrev mQi (post : Int32 → hmp → Prop) (D : va_G) (M : hmp) (sz : Nat) : Array Value → State → Outcome → State → Prop := va_Qi post (fun M' t => HP D (FA M sz) M' t.heap) (FA M sz)
abbrev mQv (post : hmp → Prop) (D : va_G) (M : hmp) (sz : Nat) : Array Value → State → Outcome → State → Prop := va_Qv post (fun M' t => HP D (FA M sz) M' t.heap) (FA M sz)
theorem mP_blind (D : va_G) (cT : Nat → ClassId) (As : List Value) (M : hmp) (sz : Nat) : FrameBlind (mP D cT As M sz) := fun a U g mk q => ⟨q.1, q.2.1, q.2.2.1, KK.moved (u := U) (U := U.calling g mk a) (Vm.Alike.refl U.vm) q.2.2.2⟩
theorem HP.weaken {A B : Nat → Prop} (h : HP D A M H) (hAB : ∀ q, A q → B q) : HP D B M H := by
  obtain ⟨w, hP, hD, hW⟩ := h
  exact ⟨w, hP, hD.weaken (fun _ q _ z => hAB _ z), hW⟩
theorem HP.entry (h : HP D A M H) : HM D (FA M H.size) M H H [] := by
  obtain ⟨w, hP, hD, hW⟩ := h
  exact ⟨fun q h => Or.inr h, va_S.rf, w, hP, ⟨hD.1, fun k q hq => Or.inl ⟨q.2, (hW q.1 q.2).mpr ⟨k, hq⟩⟩⟩, hW⟩
theorem HM.free (h : HM D A M H0 H locs) : ∀ q, FA M H.size q → A q := by
  obtain ⟨hA, hS, w, hP, hD, hW⟩ := h
  intro q hq
  rcases hq with ⟨e, he⟩ | hq
  · obtain ⟨k, hk⟩ := (hW q e).mp he
    exact hD.2 k _ hk
  · exact hA q (Nat.le_trans hS.1 hq)
theorem HM.hp (h : HM D A M H0 H locs) : HP D A M H := h.2.2
theorem mP_pre (hK : KK D cT s) (hM : HM D A M H0 H locs) (U : State) (hU : U.heap = H) (hW : s.WarmedH U.vm) : mP D cT As M H.size As.toArray U := ⟨rfl, by rw [hU], by rw [hU]; exact hM.hp.weaken (fun _ _ => trivial), hK.moved hW.alike⟩
/-- behind a call that changes the world -/
theorem HM.back (h : HM D A M H0 H locs) {M1 : hmp} {H1 : Heap} {L : List Loc} (h1 : HP D (FA M H.size) M1 H1) (hz : H.size ≤ H1.size) (hk : ∀ q : Nat, q < H.size → ¬ FA M H.size q → H1[q]? = H[q]?) (hL : ∀ q ∈ L, FA M H.size q.base) : HM D A M1 H0 H1 (locs ++ L) := by
  have hf := h.free
  obtain ⟨hA, hS, -⟩ := h
  refine ⟨hA, ⟨Nat.le_trans hS.1 hz, fun q h1 h2 => ?_, fun q hq => ?_⟩, h1.weaken hf⟩
  · rw [hk q (Nat.lt_of_lt_of_le h1 hS.1) (fun z => h2 (hf q z))]
    exact hS.2.1 q h1 h2
  · rcases List.mem_append.mp hq with h | h
    · exact hS.2.2 q h
    · exact hf _ (hL q h)
theorem rVm (S : CallFix p m c cc nL s args lw_all own) (hK : KK D cT s) (hM : HM D A M H0 H locs) {C : String} {T : u_T} {N ci : Nat} {ty : Nat → FieldType} (hC : CI ci C T N ty) {fs : List Value} (hb : M b = some (.inr (ci, fs))) (hyC : C = y.cls) {Qc : Array Value → State → Outcome → State → Prop} (hMt : Met l y (wz y cb mL ret) rm (mP D cT (.ref b :: As) M H.size) Qc mc ms (FA M H.size)) (hy : IM y cb mL ret n) (hse : Cond.selects y.cls y y ∈ lw_all) (hl : Cond.methodLink own idx y ∈ lw_all) (hR : RmLe rm R mL) (hc : rm.cells = mc ∧ rm.slots = ms) (hn : As.length = n) (hsize : ls.size = nL) (hst : st0 = As.reverse ++ .ref b :: rest) (hw : (rest.map fun v => v.category).sum ≤ 8) (hdg : decode cc pc = .ok (.invokevirtual idx, 3)) (hf : cells + mc ≤ R.cells ∧ slots + ms ≤ R.slots) :
    va_Run p l e R s m args below meth c H locs cells slots mc ms (F0 m pc ls st0) rest (Qc (Value.ref b :: As).toArray) (FA M H.size) := by
  have cw := k_callV S hy hse hl hR (rm := rm)
  rw [hc.1, hc.2] at cw
  subst hyC
  exact va_runV S hMt cw ⟨mP_blind D cT _ M _, va_recv hK.1 (hM.pr.one hb) hC.1 (q0 := 0) rfl, fun U hU hW => mP_pre hK hM U hU hW⟩ rfl hn hsize hst (lv_room hw) hdg hf
theorem rIm (S : CallFix p m c cc nL s args lw_all own) (hK : KK D cT s) (hM : HM D A M H0 H locs) {Qc : Array Value → State → Outcome → State → Prop} (hMt : Met l y (wz y cb mL none) rm (mP D cT (.ref b :: As) M H.size) Qc mc ms (FA M H.size)) (hy : IM y cb mL none n) (hyn : y.name = "<init>") (hl : Cond.methodLink own idx y ∈ lw_all) (hR : RmLe rm R mL) (hc : rm.cells = mc ∧ rm.slots = ms) (hn : As.length = n) (hsize : ls.size = nL) (hst : st0 = As.reverse ++ .ref b :: rest) (hw : (rest.map fun v => v.category).sum ≤ 8) (hdg : decode cc pc = .ok (.invokespecial idx, 3)) (hf : cells + mc ≤ R.cells ∧ slots + ms ≤ R.slots) :
    va_Run p l e R s m args below meth c H locs cells slots mc ms (F0 m pc ls st0) rest (Qc (Value.ref b :: As).toArray) (FA M H.size) := by
  have cw := k_callI S hy hyn hl hR (rm := rm)
  rw [hc.1, hc.2] at cw
  exact va_runI S hMt cw ⟨mP_blind D cT _ M _, fun U hU hW => mP_pre hK hM U hU hW⟩ rfl hn hsize hst (lv_room hw) hdg hf
theorem mc_i {post : Int32 → hmp → Prop} {arr : Array Value} (hM : HM D A M H0 H locs) (hr : va_Run p l e R s m args below meth c H locs cells slots mc ms (F0 m pc ls st0) rest (mQi post D M H.size arr) (FA M H.size)) (kk : ∀ (r : Int32) (M1 : hmp) (H1 : Heap) (locs1 : List Loc), post r M1 → HM D A M1 H0 H1 locs1 → H.size ≤ H1.size → (∀ q : Nat, q < H.size → ¬ FA M H.size q → H1[q]? = H[q]?) → HP D (FA M H.size) M1 H1 → W p l e R s m args below meth c H1 locs1 (cells + mc) (slots + ms) Q (F0 m (pc + 3) ls (.int r :: rest))) : W p l e R s m args below meth c H locs cells slots Q (F0 m pc ls st0) := by
  intro T hT X
  obtain ⟨v, st₀, t, T', L, h0, X', hL, e1, e2, ⟨⟨r, u, hv, hp, hb⟩, hz, hk⟩, st⟩ := hr T hT X
  cases hv
  rw [h0] at hz hk
  rw [← e1] at hz hk hb
  obtain ⟨t2, a1, b1⟩ := kk r u T'.heap (locs ++ L) hp (hM.back hb hz hk hL) hz hk hb T' rfl X'
  exact ⟨t2, st t2 a1, b1⟩
theorem mc_v {post : hmp → Prop} {arr : Array Value} (hM : HM D A M H0 H locs) (hr : va_Run p l e R s m args below meth c H locs cells slots mc ms (F0 m pc ls st0) rest (mQv post D M H.size arr) (FA M H.size)) (kk : ∀ (M1 : hmp) (H1 : Heap) (locs1 : List Loc), post M1 → HM D A M1 H0 H1 locs1 → H.size ≤ H1.size → (∀ q : Nat, q < H.size → ¬ FA M H.size q → H1[q]? = H[q]?) → HP D (FA M H.size) M1 H1 → W p l e R s m args below meth c H1 locs1 (cells + mc) (slots + ms) Q (F0 m (pc + 3) ls rest)) : W p l e R s m args below meth c H locs cells slots Q (F0 m pc ls st0) := by
  intro T hT X
  obtain ⟨v, st₀, t, T', L, h0, X', hL, e1, e2, ⟨⟨u, hv, hp, hb⟩, hz, hk⟩, st⟩ := hr T hT X
  cases hv
  rw [h0] at hz hk
  rw [← e1] at hz hk hb
  obtain ⟨t2, a1, b1⟩ := kk u T'.heap (locs ++ L) hp (hM.back hb hz hk hL) hz hk hb T' rfl X'
  exact ⟨t2, st t2 a1, b1⟩
/-- a method that changes the world: from its entry -/
theorem mk_m {Qc : Array Value → State → Outcome → State → Prop} {sz : Nat} (hy : plainFor y = true) (hlen : (lg_sl As).length ≤ mL)
    (body : ∀ p e s m args below meth c, CallFix p m c cb mL s args lw_all y.cls → KK D cT s → s.heap.size = sz → HM D (FA M sz) M s.heap s.heap [] → meth.sig.returnType = ret → meth.locks = false → meth.name = y.name → ∀ ls, lv_has ls mL (lv_args 0 As) → W p l e rm s m args below meth c s.heap [] 0 0 (MQ below Qc args s mc ms (FA M sz)) (F0 m 0 ls [])) :
    Met l y (wz y cb mL ret) rm (mP D cT As M sz) Qc mc ms (FA M sz) := by
  refine va_MetF (cc := cb) (maxL := mL) (ret := ret) hy rfl ?_
  intro p e s m args below meth c s₁ B hml hv
  obtain ⟨rfl, hH, hP, hK⟩ := hv
  have hts : ∀ w ∈ lw_all, w.before As.toArray s = true := fun w h => atoms_spec (ws := wz y cb mL ret) B.pre w (List.mem_cons_of_mem _ h)
  have hl := lv_entry As (n := mL) hlen
  rw [lg_entry_eq]
  have hE := hP.entry
  rw [hH] at hE
  exact body p e s m As.toArray below meth c ⟨B.exec, B.bytes, hml, findClass_of_methodNamed B.named, hts⟩ hK hH hE B.returns B.notSynchronized (name_of_methodNamed B.named B.method).1 _ hl
theorem HM.F {t : State} {sz : Nat} {M1 : hmp} (h : HM D (FA M sz) M1 s.heap H locs) (ht : t.heap = H) : va_F (FA M sz) s t := h.2.1.F ht
theorem mr_i (S : CallFix p m c cc nL s args lw_all own) {sz : Nat} {M1 : hmp} (hM : HM D (FA M sz) M1 s.heap H locs) (hr : meth.sig.returnType = some .int) (hlocks : meth.locks = false) {post : Int32 → hmp → Prop} {v : Int32} (hdg : decode cc pc = .ok (.ireturn, 1)) (hcs : cells ≤ mc ∧ slots ≤ ms) (hp : post v M1) : W p l e R s m args below meth c H locs cells slots (MQ below (mQi post D M sz) args s mc ms (FA M sz)) (F0 m pc ls [.int v]) :=
  W.widen hcs.1 hcs.2 (W.iret S.1 S.2.1 hr (fun t ht hW => ⟨⟨v, M1, rfl, hp, by show HP _ _ _ _; rw [ht]; exact hM.hp⟩, hM.F ht⟩) hM.2.1.2.2 hdg hlocks)
theorem mr_v (S : CallFix p m c cc nL s args lw_all own) {sz : Nat} {M1 : hmp} (hM : HM D (FA M sz) M1 s.heap H locs) (hr : meth.sig.returnType = none) (hlocks : meth.locks = false) {post : hmp → Prop} (hdg : decode cc pc = .ok (.return_, 1)) (hcs : cells ≤ mc ∧ slots ≤ ms) (hp : post M1) : W p l e R s m args below meth c H locs cells slots (MQ below (mQv post D M sz) args s mc ms (FA M sz)) (F0 m pc ls []) :=
  W.widen hcs.1 hcs.2 (W.vret S.1 S.2.1 hr (fun t ht hW => ⟨⟨M1, rfl, hp, by show HP _ _ _ _; rw [ht]; exact hM.hp⟩, hM.F ht⟩) hM.2.1.2.2 hdg hlocks)
end MTH
