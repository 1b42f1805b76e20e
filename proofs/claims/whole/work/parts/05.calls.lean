section HMN
variable {p : Program} {l : Launch} {e : Env} {R : Room} {s : State} {m : MethodId} {args : Array Value} {below : List Frame} {meth : Method} {c : Code} {H : Heap} {locs : List Loc} {cells slots : Nat} {Q : State → Prop}
variable {cc : ByteArray} {pc nL : Nat} {ls : Array Slot} {rest : List Value} {D : va_G} {cT : Nat → ClassId} {A : Nat → Prop} {a : Nat} {M : hmp} {H0 : Heap} {own : String} {idx : Nat}
/-- a new row of numbers; t0: the type's place -/
theorem hm_newa (S : CallFix p m c cc nL s args lw_all own) (hK : KK D cT s) (hM : HM D A M H0 H locs) (t0 : Nat) {atype : ArrayType} {ty : FieldType} (harr : Cond.arrayClass (newarray.typeOf atype) ∈ lw_all) (hty : newarray.typeOf atype = ty) (ht : (tysL cT)[t0]? = some (cT t0, ty)) (hra : ∀ (U : State) (cA : ClassId), va_RA U cA ty → U.vm.findClass ("[" ++ ty.toString) = some cA) {n : Int32} {N' : Nat} {a0 : vp_A} (ha : ∀ cA : ClassId, vp_cell cA a0 = arrV cA N' (fun _ => defaultValue ty)) (hn : ¬ n < 0) (hN : n.toNatClampNeg = N') (hbytes : N' * componentBytes ty ≤ 536870912) (hcells : cells + 1 ≤ R.cells) (hslots : slots + N' ≤ R.slots) (hdg : decode cc pc = .ok (.newarray atype, 2))
    (kk : ∀ (q : Nat) (H1 : Heap) (M1 : hmp), M q = none → M1 = va_up M q (some (.inl (cT t0, a0))) → HM D A M1 H0 H1 locs → W p l e R s m args below meth c H1 locs (cells + 1) (slots + N') Q (F0 m (pc + 2) ls (.ref q :: rest))) : W p l e R s m args below meth c H locs cells slots Q (F0 m pc ls (.int n :: rest)) := by
  obtain ⟨hA, hS, w, hP, hD, hW⟩ := hM
  refine va_newa S.1 S.2.1 (S.2.2.2.2 _ harr) hty hK.1 hP hD hS hA ha hn hN hbytes hcells hslots hdg (fun q cA H1 hK1 hP1 hD1 hS1 => ?_)
  have e1 := hra _ _ (hK1.2 9 _ rfl).2
  have e2 := hra _ _ (hK.1.2 t0 _ ht).2
  have e3 : cA = cT t0 := Option.some.inj (e1.symm.trans e2)
  subst e3
  exact kk q H1 _ (hW.push hD1).1 rfl ⟨hA, hS1, _, hP1, hD1, (hW.push hD1).2⟩
theorem hm_newq (S : CallFix p m c cc nL s args lw_all own) (hK : KK D cT s) (hM : HM D A M H0 H locs) (t0 : Nat) {C : String} (hcl : Cond.classLink own idx C ∈ lw_all) (hover : va_AO C s) (ht : (tysL cT)[t0]? = some (cT t0, .object C)) {n : Int32} {N' : Nat} (hn : ¬ n < 0) (hN : n.toNatClampNeg = N') (hbytes : N' * 4 ≤ 536870912) (hcells : cells + 1 ≤ R.cells) (hslots : slots + N' ≤ R.slots) (hdg : decode cc pc = .ok (.anewarray idx, 3))
    (kk : ∀ (q : Nat) (H1 : Heap) (M1 : hmp), M q = none → M1 = va_up M q (some (.inl (cT t0, N', .inr (.inr (.inr (.inr (fun _ => none))))))) → HM D A M1 H0 H1 locs → W p l e R s m args below meth c H1 locs (cells + 1) (slots + N') Q (F0 m (pc + 3) ls (.ref q :: rest))) : W p l e R s m args below meth c H locs cells slots Q (F0 m pc ls (.int n :: rest)) := by
  obtain ⟨hA, hS, w, hP, hD, hW⟩ := hM
  refine va_newq S.1 S.2.1 S.2.2.2.1 (S.2.2.2.2 _ hcl) hover hK.1 hP hD hS hA hn hN hbytes hcells hslots hdg (fun q cA H1 hK1 hP1 hD1 hS1 => ?_)
  have e3 : cA = cT t0 := Option.some.inj ((va_nmO (hK1.2 9 _ rfl).2 rfl).symm.trans (va_nmO (hK.1.2 t0 _ ht).2 rfl))
  subst e3
  exact kk q H1 _ (hW.push hD1).1 rfl ⟨hA, hS1, _, hP1, hD1, (hW.push hD1).2⟩
theorem hm_newA (S : CallFix p m c cc nL s args lw_all own) (hK : KK D cT s) (hM : HM D A M H0 H locs) (hcl : Cond.classLink own idx "[D" ∈ lw_all) {n : Int32} {N' : Nat} (hn : ¬ n < 0) (hN : n.toNatClampNeg = N') (hbytes : N' * 4 ≤ 536870912) (hcells : cells + 1 ≤ R.cells) (hslots : slots + N' ≤ R.slots) (hdg : decode cc pc = .ok (.anewarray idx, 3))
    (kk : ∀ (q : Nat) (H1 : Heap) (M1 : hmp), M q = none → M1 = va_up M q (some (.inl (cT 8, N', .inr (.inr (.inr (.inr (fun _ => none))))))) → HM D A M1 H0 H1 locs → W p l e R s m args below meth c H1 locs (cells + 1) (slots + N') Q (F0 m (pc + 3) ls (.ref q :: rest))) : W p l e R s m args below meth c H locs cells slots Q (F0 m pc ls (.int n :: rest)) := by
  obtain ⟨hA, hS, w, hP, hD, hW⟩ := hM
  subst hN
  refine W.anewA (t := .double) S.1 S.2.1 S.2.2.2.1 (S.2.2.2.2 _ hcl) hK.2.2.2.2.2 rfl hdg rfl hn hbytes hcells hslots fun cA kA comp f1 f2 f3 f4 => ?_
  have e3 : cA = cT 8 := Option.some.inj (f1.symm.trans (hK.1.2 8 _ rfl).2)
  subst e3
  generalize hH1 : H.push ({ cls := cT 8, slots := Array.replicate n.toNatClampNeg .null, vm := .none } : Cell) = H1
  have z1 : H1.size = H.size + 1 := by rw [← hH1, Array.size_push]
  have e1 : H1[H.size]? = some (arrV (cT 8) n.toNatClampNeg (fun _ => .null)) := by rw [← hH1, Array.getElem?_push_size, ← arrV_new]
  have o1 : ∀ q : Nat, q < H.size → H1[q]? = H[q]? := fun q hq => by rw [← hH1, Array.getElem?_push, if_neg (Nat.ne_of_lt hq)]
  have hk : ∀ (k : Nat) (x : Nat × va_E), w[k]? = some x → H1[x.1]? = H[x.1]? := fun k x hx => o1 x.1 ((hP k x hx).lt)
  have hD1 : va_D A (w ++ [(H.size, .inl (cT 8, n.toNatClampNeg, .inr (.inr (.inr (.inr (fun _ => none))))))]) := hD.push hP rfl (hA _ hS.1)
  refine kk H.size H1 _ (hW.push hD1).1 rfl ⟨hA, ⟨Nat.le_trans hS.1 (by omega), fun x h1 h2 => (o1 x (Nat.lt_of_lt_of_le h1 hS.1)).trans (hS.2.1 x h1 h2), hS.2.2⟩, _, (hP.kept hk).app (fun k x hx => ?_), hD1, (hW.push hD1).2⟩
  have hz : k < 1 := (List.getElem?_eq_some_iff.mp hx).1
  rw [show k = 0 by omega] at hx
  cases hx
  show H1[H.size]? = some (vp_cell _ _)
  rw [vp_cell_q]
  exact e1
/-! calls -/
abbrev noMH (y : MethodName) (n : Nat) : Prop := y.cls ≠ "java/lang/invoke/MethodHandle" ∧ y.cls ≠ "java/lang/invoke/VarHandle" ∧ (parseMethodDescriptor y.desc).map (fun d => d.parameters.length) = some n
/-- a static method of ours, its words -/
abbrev SM (y : MethodName) (cb : ByteArray) (mL : Nat) (ret : Option FieldType) (n : Nat) : Prop := Cond.static y ∈ lw_all ∧ Cond.initialized y.cls ∈ lw_all ∧ Cond.code y cb mL ret ∈ lw_all ∧ noMH y n
abbrev IM (y : MethodName) (cb : ByteArray) (mL : Nat) (ret : Option FieldType) (n : Nat) : Prop := Cond.instanceMethod y ∈ lw_all ∧ Cond.initialized y.cls ∈ lw_all ∧ Cond.code y cb mL ret ∈ lw_all ∧ noMH y n
abbrev RmLe (rm R : Room) (mL : Nat) : Prop := rm.frames + 1 ≤ R.frames ∧ 8 + (mL + 11) + rm.locals ≤ R.locals
variable {y : MethodName} {cb : ByteArray} {mL n mc ms : Nat} {ret : Option FieldType} {rm : Room} {As st0 : List Value} {b : Nat}
theorem k_callS (S : CallFix p m c cc nL s args lw_all own) (hy : SM y cb mL ret n) (hl : Cond.methodLink own idx y ∈ lw_all) (hR : RmLe rm R mL) : CallB R s args own idx y cb mL ret (wz y cb mL ret) rm rm.cells rm.slots n ∧ (Cond.static y).before args s = true :=
  ⟨callB_of n S.2.2.2.2 (wz_good hy.2.2.1) rfl rfl rfl (S.2.2.2.2 _ hy.2.1) (S.2.2.2.2 _ hl) hy.2.2.2 hR, S.2.2.2.2 _ hy.1⟩
theorem k_callV (S : CallFix p m c cc nL s args lw_all own) (hy : IM y cb mL ret n) (hse : Cond.selects y.cls y y ∈ lw_all) (hl : Cond.methodLink own idx y ∈ lw_all) (hR : RmLe rm R mL) : CallW R s args own y.cls idx y cb mL ret (wz y cb mL ret) rm rm.cells rm.slots n :=
  ⟨callB_of n S.2.2.2.2 (wz_good hy.2.2.1) rfl rfl rfl (S.2.2.2.2 _ hy.2.1) (S.2.2.2.2 _ hl) hy.2.2.2 hR, S.2.2.2.2 _ hy.1, S.2.2.2.2 _ hse⟩
theorem k_callI (S : CallFix p m c cc nL s args lw_all own) (hy : IM y cb mL none n) (hn : y.name = "<init>") (hl : Cond.methodLink own idx y ∈ lw_all) (hR : RmLe rm R mL) : CallB R s args own idx y cb mL none (wz y cb mL none) rm rm.cells rm.slots n ∧ y.name = "<init>" ∧ (Cond.instanceMethod y).before args s = true :=
  ⟨callB_of n S.2.2.2.2 (wz_good hy.2.2.1) rfl rfl rfl (S.2.2.2.2 _ hy.2.1) (S.2.2.2.2 _ hl) hy.2.2.2 hR, hn, S.2.2.2.2 _ hy.1⟩
/-- a method that leaves the heap as it is: its start -/
abbrev pP (D : va_G) (cT : Nat → ClassId) (As : List Value) (H : Heap) : Array Value → State → Prop := va_Pc As (fun U => U.heap = H ∧ KK D cT U)
abbrev qi (post : Int32 → Prop) (H : Heap) : Array Value → State → Outcome → State → Prop := va_Qi (fun r (_ : Unit) => post r) (fun _ t => t.heap = H) (fun _ => False)
abbrev ql (post : Int64 → Prop) (H : Heap) : Array Value → State → Outcome → State → Prop := va_Ql (fun r (_ : Unit) => post r) (fun _ t => t.heap = H) (fun _ => False)
abbrev qf (post : UInt32 → Prop) (H : Heap) : Array Value → State → Outcome → State → Prop := va_Qf (fun r (_ : Unit) => post r) (fun _ t => t.heap = H) (fun _ => False)
abbrev qd (post : UInt64 → Prop) (H : Heap) : Array Value → State → Outcome → State → Prop := va_Qd (fun r (_ : Unit) => post r) (fun _ t => t.heap = H) (fun _ => False)
theorem pP_blind (D : va_G) (cT : Nat → ClassId) (As : List Value) (H : Heap) : FrameBlind (pP D cT As H) := fun a U g mk q => ⟨q.1, q.2.1, KK.moved (u := U) (U := U.calling g mk a) (Vm.Alike.refl U.vm) q.2.2⟩
theorem pP_pre (hK : KK D cT s) (U : State) (hU : U.heap = H) (hW : s.WarmedH U.vm) : pP D cT As H As.toArray U := ⟨rfl, hU, hK.moved hW.alike⟩
/-- a run of a static method that leaves the heap -/
theorem rS (S : CallFix p m c cc nL s args lw_all own) (hK : KK D cT s) {Qc : Array Value → State → Outcome → State → Prop} (hM : Met l y (wz y cb mL ret) rm (pP D cT As H) Qc 0 0 (fun _ => False)) (hy : SM y cb mL ret n) (hl : Cond.methodLink own idx y ∈ lw_all) (hR : RmLe rm R mL) (hc : rm.cells = 0 ∧ rm.slots = 0) (hn : As.length = n) (hsize : ls.size = nL) (hst : st0 = As.reverse ++ rest) (hw : (rest.map fun v => v.category).sum ≤ 8) (hdg : decode cc pc = .ok (.invokestatic idx, 3)) (hf : cells ≤ R.cells ∧ slots ≤ R.slots) :
    va_Run p l e R s m args below meth c H locs cells slots 0 0 (F0 m pc ls st0) rest (Qc As.toArray) (fun _ => False) := by
  have cw := k_callS S hy hl hR (rm := rm)
  rw [hc.1, hc.2] at cw
  exact va_runS S hM cw ⟨pP_blind D cT As H, fun U hU hW => pP_pre hK U hU hW⟩ rfl hn hsize hst (lv_room hw) hdg hf
theorem rV (S : CallFix p m c cc nL s args lw_all own) (hK : KK D cT s) (hP : HPr D M H) {C : String} {T : u_T} {N ci : Nat} {ty : Nat → FieldType} (hC : CI ci C T N ty) {fs : List Value} (hb : M b = some (.inr (ci, fs))) (hyC : C = y.cls) {Qc : Array Value → State → Outcome → State → Prop} (hM : Met l y (wz y cb mL ret) rm (pP D cT (.ref b :: As) H) Qc 0 0 (fun _ => False)) (hy : IM y cb mL ret n) (hse : Cond.selects y.cls y y ∈ lw_all) (hl : Cond.methodLink own idx y ∈ lw_all) (hR : RmLe rm R mL) (hc : rm.cells = 0 ∧ rm.slots = 0) (hn : As.length = n) (hsize : ls.size = nL) (hst : st0 = As.reverse ++ .ref b :: rest) (hw : (rest.map fun v => v.category).sum ≤ 8) (hdg : decode cc pc = .ok (.invokevirtual idx, 3)) (hf : cells ≤ R.cells ∧ slots ≤ R.slots) :
    va_Run p l e R s m args below meth c H locs cells slots 0 0 (F0 m pc ls st0) rest (Qc (Value.ref b :: As).toArray) (fun _ => False) := by
  have cw := k_callV S hy hse hl hR (rm := rm)
  rw [hc.1, hc.2] at cw
  subst hyC
  exact va_runV S hM cw ⟨pP_blind D cT _ H, va_recv hK.1 (hP.one hb) hC.1 (q0 := 0) rfl, fun U hU hW => pP_pre hK U hU hW⟩ rfl hn hsize hst (lv_room hw) hdg hf
theorem kS_false {A0 : Nat → Prop} {H0 H H1 : Heap} (e : H1 = H) {Lx locs1 : List Loc} (h : va_S A0 H0 H1 locs1) : va_S A0 H0 H locs1 := e ▸ h
/-- behind a run of a method that leaves the heap -/
theorem pc_i {post : Int32 → Prop} {arr : Array Value} (hr : va_Run p l e R s m args below meth c H locs cells slots 0 0 (F0 m pc ls st0) rest (qi post H arr) (fun _ => False)) (kk : ∀ r : Int32, post r → W p l e R s m args below meth c H locs cells slots Q (F0 m (pc + 3) ls (.int r :: rest))) : W p l e R s m args below meth c H locs cells slots Q (F0 m pc ls st0) := by
  intro T hT X
  obtain ⟨v, st₀, t, T', L, h0, X', hL, e1, e2, ⟨⟨r, u, hv, hp, hb⟩, hz, hk⟩, st⟩ := hr T hT X
  cases hv
  have hLn : L = [] := by cases L with | nil => rfl | cons q qs => exact absurd (hL q List.mem_cons_self) id
  subst hLn
  rw [List.append_nil] at X'
  obtain ⟨t2, a1, b1⟩ := kk r hp T' (e1.trans hb) X'
  exact ⟨t2, st t2 a1, b1⟩
theorem pc_l {post : Int64 → Prop} {arr : Array Value} (hr : va_Run p l e R s m args below meth c H locs cells slots 0 0 (F0 m pc ls st0) rest (ql post H arr) (fun _ => False)) (kk : ∀ r : Int64, post r → W p l e R s m args below meth c H locs cells slots Q (F0 m (pc + 3) ls (.long r :: rest))) : W p l e R s m args below meth c H locs cells slots Q (F0 m pc ls st0) := by
  intro T hT X
  obtain ⟨v, st₀, t, T', L, h0, X', hL, e1, e2, ⟨⟨r, u, hv, hp, hb⟩, hz, hk⟩, st⟩ := hr T hT X
  cases hv
  have hLn : L = [] := by cases L with | nil => rfl | cons q qs => exact absurd (hL q List.mem_cons_self) id
  subst hLn
  rw [List.append_nil] at X'
  obtain ⟨t2, a1, b1⟩ := kk r hp T' (e1.trans hb) X'
  exact ⟨t2, st t2 a1, b1⟩
theorem pc_f {post : UInt32 → Prop} {arr : Array Value} (hr : va_Run p l e R s m args below meth c H locs cells slots 0 0 (F0 m pc ls st0) rest (qf post H arr) (fun _ => False)) (kk : ∀ r : UInt32, post r → W p l e R s m args below meth c H locs cells slots Q (F0 m (pc + 3) ls (.float r :: rest))) : W p l e R s m args below meth c H locs cells slots Q (F0 m pc ls st0) := by
  intro T hT X
  obtain ⟨v, st₀, t, T', L, h0, X', hL, e1, e2, ⟨⟨r, u, hv, hp, hb⟩, hz, hk⟩, st⟩ := hr T hT X
  cases hv
  have hLn : L = [] := by cases L with | nil => rfl | cons q qs => exact absurd (hL q List.mem_cons_self) id
  subst hLn
  rw [List.append_nil] at X'
  obtain ⟨t2, a1, b1⟩ := kk r hp T' (e1.trans hb) X'
  exact ⟨t2, st t2 a1, b1⟩
theorem pc_d {post : UInt64 → Prop} {arr : Array Value} (hr : va_Run p l e R s m args below meth c H locs cells slots 0 0 (F0 m pc ls st0) rest (qd post H arr) (fun _ => False)) (kk : ∀ r : UInt64, post r → W p l e R s m args below meth c H locs cells slots Q (F0 m (pc + 3) ls (.double r :: rest))) : W p l e R s m args below meth c H locs cells slots Q (F0 m pc ls st0) := by
  intro T hT X
  obtain ⟨v, st₀, t, T', L, h0, X', hL, e1, e2, ⟨⟨r, u, hv, hp, hb⟩, hz, hk⟩, st⟩ := hr T hT X
  cases hv
  have hLn : L = [] := by cases L with | nil => rfl | cons q qs => exact absurd (hL q List.mem_cons_self) id
  subst hLn
  rw [List.append_nil] at X'
  obtain ⟨t2, a1, b1⟩ := kk r hp T' (e1.trans hb) X'
  exact ⟨t2, st t2 a1, b1⟩
end HMN
