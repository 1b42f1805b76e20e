/-! worlds as maps from addresses to cells -/
abbrev hmp : Type := Nat → Option va_E
abbrev tysL (cT : Nat → ClassId) : List (ClassId × FieldType) := [(cT 0, .double), (cT 1, .float), (cT 2, .int), (cT 3, .long), (cT 4, .boolean), (cT 5, .object RX0), (cT 6, .object RX1), (cT 7, .object RX3), (cT 8, .array .double)]
def KA (cT : Nat → ClassId) (U : State) : Prop := (∃ kA : Class, U.vm.classes[cT 8]? = some kA ∧ kA.kind = .array (cT 0) (.array .double)) ∧ ∃ kD : Class, U.vm.classes[cT 0]? = some kD
def AA (U : State) : Prop := (Cond.arrayOver (.array .double)).before #[] U = true
def KK (D : va_G) (cT : Nat → ClassId) (U : State) : Prop := va_K D vwCl (tysL cT) U ∧ KA cT U ∧ va_AO RX0 U ∧ va_AO RX1 U ∧ va_AO RX3 U ∧ AA U
theorem KA.moved {cT : Nat → ClassId} {u U : State} (hvm : u.vm.Alike U.vm) (h : KA cT u) : KA cT U := by
  obtain ⟨⟨kA, h1, h2⟩, kD, h3⟩ := h
  obtain ⟨k', hk', he⟩ := hvm.2.2 _ _ h1
  obtain ⟨k2, hk2, -⟩ := hvm.2.2 _ _ h3
  exact ⟨⟨k', hk', by rw [he]; exact h2⟩, k2, hk2⟩
theorem AA.moved {u U : State} (hvm : u.vm.Alike U.vm) (h : AA u) : AA U := by
  have h2 : (Cond.arrayOver (.array .double)).before #[] (u.setVm U.vm) = true := by rw [Cond.arrayOver_setVmC hvm]; exact h
  exact h2
theorem asg_self (vm : Vm) (k : ClassId) : vm.assignable k k = true := by
  show Vm.assignableAux vm (255 + 1) k k = true
  unfold Vm.assignableAux
  simp
theorem KK.moved {D : va_G} {cT : Nat → ClassId} {u U : State} (hvm : u.vm.Alike U.vm) (h : KK D cT u) : KK D cT U :=
  ⟨va_K.moved hvm h.1, h.2.1.moved hvm, h.2.2.1.moved hvm, h.2.2.2.1.moved hvm, h.2.2.2.2.1.moved hvm, h.2.2.2.2.2.moved hvm⟩
/-- the heap holds the map's cells -/
def HPr (D : va_G) (M : hmp) (H : Heap) : Prop := ∀ a e, M a = some e → va_at D vwCl (a, e) H
def MW (M : hmp) (w : va_W) : Prop := ∀ a e, M a = some e ↔ ∃ k : Nat, w[k]? = some (a, e)
def HP (D : va_G) (A : Nat → Prop) (M : hmp) (H : Heap) : Prop := ∃ w : va_W, va_P D vwCl w H ∧ va_D A w ∧ MW M w
def FA (M : hmp) (sz : Nat) : Nat → Prop := fun q => (∃ e, M q = some e) ∨ sz ≤ q
def HM (D : va_G) (A : Nat → Prop) (M : hmp) (H0 H : Heap) (locs : List Loc) : Prop := (∀ q, H0.size ≤ q → A q) ∧ va_S A H0 H locs ∧ HP D A M H
theorem HP.pr {D : va_G} {A : Nat → Prop} {M : hmp} {H : Heap} (h : HP D A M H) : HPr D M H := by
  obtain ⟨w, hP, -, hW⟩ := h
  intro a e ha
  obtain ⟨k, hk⟩ := (hW a e).mp ha
  exact hP k _ hk
theorem HM.pr {D : va_G} {A : Nat → Prop} {M : hmp} {H0 H : Heap} {locs : List Loc} (h : HM D A M H0 H locs) : HPr D M H := h.2.2.pr
theorem HPr.one {D : va_G} {M : hmp} {H : Heap} (h : HPr D M H) {a : Nat} {e : va_E} (ha : M a = some e) : va_P D vwCl [(a, e)] H := by
  intro k q hk
  match k, hk with
  | 0, hk => cases hk; exact h a e ha
  | k + 1, hk => simp at hk
theorem MW.set {M : hmp} {w : va_W} {A : Nat → Prop} (h : MW M w) (hD : va_D A w) {k a : Nat} {e0 : va_E} (hk : w[k]? = some (a, e0)) (e : va_E) : MW (va_up M a (some e)) (w.set k (a, e)) := by
  have hl := (List.getElem?_eq_some_iff.mp hk).1
  intro b f
  by_cases hb : b = a
  · subst hb
    rw [va_up_self]
    constructor
    · intro hf
      cases hf
      exact ⟨k, List.getElem?_set_self hl⟩
    · rintro ⟨j, hj⟩
      by_cases hjk : j = k
      · subst hjk
        rw [List.getElem?_set_self hl] at hj
        cases hj; rfl
      · rw [List.getElem?_set_ne (Ne.symm hjk)] at hj
        exact absurd (hD.1 j k _ _ hj hk rfl) hjk
  · rw [va_up_ne _ _ hb, h b f]
    constructor
    · rintro ⟨j, hj⟩
      refine ⟨j, ?_⟩
      have hjk : j ≠ k := fun q => by subst q; rw [hk] at hj; cases hj; exact hb rfl
      rw [List.getElem?_set_ne (Ne.symm hjk)]; exact hj
    · rintro ⟨j, hj⟩
      by_cases hjk : j = k
      · subst hjk
        rw [List.getElem?_set_self hl] at hj
        cases hj; exact absurd rfl hb
      · rw [List.getElem?_set_ne (Ne.symm hjk)] at hj
        exact ⟨j, hj⟩
theorem MW.push {M : hmp} {w : va_W} {A : Nat → Prop} (h : MW M w) {a : Nat} {e : va_E} (hD : va_D A (w ++ [(a, e)])) : M a = none ∧ MW (va_up M a (some e)) (w ++ [(a, e)]) := by
  have hlast : (w ++ [(a, e)])[w.length]? = some (a, e) := by simp
  have hn : ∀ f, ¬ M a = some f := by
    intro f hf
    obtain ⟨j, hj⟩ := (h a f).mp hf
    have hl := (List.getElem?_eq_some_iff.mp hj).1
    have hj' : (w ++ [(a, e)])[j]? = some (a, f) := by rw [List.getElem?_append_left hl]; exact hj
    have := hD.1 j w.length _ _ hj' hlast rfl
    omega
  refine ⟨by cases hM : M a with | none => rfl | some f => exact absurd hM (hn f), ?_⟩
  intro b f
  by_cases hb : b = a
  · subst hb
    rw [va_up_self]
    constructor
    · intro hf; cases hf; exact ⟨_, hlast⟩
    · rintro ⟨j, hj⟩
      have := hD.1 j w.length _ _ hj hlast rfl
      subst this
      rw [hlast] at hj
      cases hj; rfl
  · rw [va_up_ne _ _ hb, h b f]
    constructor
    · rintro ⟨j, hj⟩
      exact ⟨j, by rw [List.getElem?_append_left (List.getElem?_eq_some_iff.mp hj).1]; exact hj⟩
    · rintro ⟨j, hj⟩
      by_cases hl : j < w.length
      · rw [List.getElem?_append_left hl] at hj; exact ⟨j, hj⟩
      · have hz := (List.getElem?_eq_some_iff.mp hj).1
        have : j = w.length := by simp at hz; omega
        subst this
        rw [hlast] at hj
        cases hj
        exact absurd rfl hb
/-- a class with its words -/
abbrev CI (ci : Nat) (C : String) (T : u_T) (N : Nat) (ty : Nat → FieldType) : Prop := vwCl[ci]? = some (C, T, N) ∧ (∀ w ∈ u_ws C T N, w ∈ lw_all) ∧ (∀ k, k < N → parseFieldDescriptor (T k).2.2.1 = some (ty k)) ∧ (∀ a, a < N → ∀ b, b < N → a ≠ b → (T a).2.1 ≠ (T b).2.1)
theorem cI0 : CI 0 RX0 TX0 2 tyX0 := ⟨rfl, inX0, tyX0_ok, nmX0⟩
theorem cI1 : CI 1 RX1 TX1 6 tyX1 := ⟨rfl, inX1, tyX1_ok, nmX1⟩
theorem cI2 : CI 2 RX2 TX2 2 tyX2 := ⟨rfl, inX2, tyX2_ok, nmX2⟩
theorem cI3 : CI 3 RX3 TX3 2 tyX3 := ⟨rfl, inX3, tyX3_ok, nmX3⟩
theorem cI4 : CI 4 RX4 TX4 10 tyX4 := ⟨rfl, inX4, tyX4_ok, nmX4⟩
theorem cI5 : CI 5 RX5 TX5 21 tyX5 := ⟨rfl, inX5, tyX5_ok, nmX5⟩
section HMR
variable {p : Program} {l : Launch} {e : Env} {R : Room} {s : State} {m : MethodId} {args : Array Value} {below : List Frame} {meth : Method} {c : Code} {H : Heap} {locs : List Loc} {cells slots : Nat} {Q : State → Prop}
variable {cc : ByteArray} {pc nL : Nat} {ls : Array Slot} {rest : List Value} {D : va_G} {cT : Nat → ClassId} {A : Nat → Prop} {a : Nat} {M : hmp} {H0 : Heap} {own : String} {idx : Nat}
theorem hm_get (S : CallFix p m c cc nL s args lw_all own) (hK : KK D cT s) (hP : HPr D M H) {C : String} {T : u_T} {N ci : Nat} {ty : Nat → FieldType} (hC : CI ci C T N ty) {fs : List Value} (ha : M a = some (.inr (ci, fs))) (k : Nat) (hk : k < N) (hl : Cond.fieldLink own idx (T k).1 (T k).2.1 (T k).2.2.1 ∈ lw_all) {v : Value} (hv : fs[k]? = some v) (hdg : decode cc pc = .ok (.getfield idx, 3))
    (kk : W p l e R s m args below meth c H locs cells slots Q (F0 m (pc + 3) ls (v :: rest))) : W p l e R s m args below meth c H locs cells slots Q (F0 m pc ls (.ref a :: rest)) :=
  va_get (D := D) (ci := ci) (v := v) (C := C) (T := T) (N := N) S.1 S.2.1 S.2.2.2.2 hC.2.1 S.2.2.2.1 hK.1 (hP.one ha) 0 rfl hC.1 k hk (S.2.2.2.2 _ hl) (fun _ h => h) hv hdg kk
theorem hm_put (S : CallFix p m c cc nL s args lw_all own) (hK : KK D cT s) (hM : HM D A M H0 H locs) {C : String} {T : u_T} {N ci : Nat} {ty : Nat → FieldType} (hC : CI ci C T N ty) {fs : List Value} (ha : M a = some (.inr (ci, fs))) (k : Nat) (hk : k < N) (hl : Cond.fieldLink own idx (T k).1 (T k).2.1 (T k).2.2.1 ∈ lw_all) (hfin : (T k).2.2.2 = false) {v : Value} (hn : narrow (ty k) v = v) (hfit : fits (ty k) v = true) (hkl : k < fs.length) (hdg : decode cc pc = .ok (.putfield idx, 3))
    (kk : ∀ (H1 : Heap) (locs1 : List Loc) (M1 : hmp), M1 = va_up M a (some (.inr (ci, fs.set k v))) → HM D A M1 H0 H1 locs1 → W p l e R s m args below meth c H1 locs1 cells slots Q (F0 m (pc + 3) ls rest)) : W p l e R s m args below meth c H locs cells slots Q (F0 m pc ls (v :: .ref a :: rest)) := by
  obtain ⟨hA, hS, w, hP, hD, hW⟩ := hM
  obtain ⟨q, hq⟩ := (hW _ _).mp ha
  exact va_put (D := D) (ci := ci) (v := v) (ty := ty k) (C := C) (T := T) (N := N) S.1 S.2.1 S.2.2.2.2 hC.2.1 ty hC.2.2.1 hC.2.2.2 S.2.2.2.1 hK.1 hP hD hS q hq hC.1 k hk (S.2.2.2.2 _ hl) (fun _ h => h) hfin (hC.2.2.1 k hk) hn hfit hkl hdg (fun H1 l1 hP1 hD1 hS1 => kk H1 l1 _ rfl ⟨hA, hS1, _, hP1, hD1, hW.set hD hq _⟩)
theorem hm_putF (S : CallFix p m c cc nL s args lw_all own) (hK : KK D cT s) (hM : HM D A M H0 H locs) {C : String} {T : u_T} {N ci : Nat} {ty : Nat → FieldType} (hC : CI ci C T N ty) {fs : List Value} (ha : M a = some (.inr (ci, fs))) (k : Nat) (hk : k < N) (hl : Cond.fieldLink own idx (T k).1 (T k).2.1 (T k).2.2.1 ∈ lw_all) (hfin : (T k).2.2.2 = true) (hin2 : meth.name = "<init>") (hdecl : (T k).1 = own) {v : Value} (hn : narrow (ty k) v = v) (hfit : fits (ty k) v = true) (hkl : k < fs.length) (hdg : decode cc pc = .ok (.putfield idx, 3))
    (kk : ∀ (H1 : Heap) (locs1 : List Loc) (M1 : hmp), M1 = va_up M a (some (.inr (ci, fs.set k v))) → HM D A M1 H0 H1 locs1 → W p l e R s m args below meth c H1 locs1 cells slots Q (F0 m (pc + 3) ls rest)) : W p l e R s m args below meth c H locs cells slots Q (F0 m pc ls (v :: .ref a :: rest)) := by
  obtain ⟨hA, hS, w, hP, hD, hW⟩ := hM
  obtain ⟨q, hq⟩ := (hW _ _).mp ha
  exact va_putF (D := D) (ci := ci) (v := v) (ty := ty k) (C := C) (T := T) (N := N) S.1 S.2.1 S.2.2.2.2 hC.2.1 ty hC.2.2.1 hC.2.2.2 S.2.2.2.1 hK.1 hP hD hS q hq hC.1 k hk (S.2.2.2.2 _ hl) (fun _ h => h) hfin hin2 hdecl (hC.2.2.1 k hk) hn hfit hkl hdg (fun H1 l1 hP1 hD1 hS1 => kk H1 l1 _ rfl ⟨hA, hS1, _, hP1, hD1, hW.set hD hq _⟩)
theorem hm_new (S : CallFix p m c cc nL s args lw_all own) (hK : KK D cT s) (hM : HM D A M H0 H locs) {C : String} {T : u_T} {N ci : Nat} {ty : Nat → FieldType} (hC : CI ci C T N ty) (hcl : Cond.classLink own idx C ∈ lw_all) (hinst : Cond.instantiable C N ∈ lw_all) (hini : Cond.initialized C ∈ lw_all) {fs : List Value} (hfs : ∀ j, j < N → defaultValue (ty j) = vp_V fs j) (hcells : cells + 1 ≤ R.cells) (hslots : slots + N ≤ R.slots) (hdg : decode cc pc = .ok (.new idx, 3))
    (kk : ∀ (q : Nat) (H1 : Heap) (M1 : hmp), M q = none → M1 = va_up M q (some (.inr (ci, fs))) → HM D A M1 H0 H1 locs → W p l e R s m args below meth c H1 locs (cells + 1) (slots + N) Q (F0 m (pc + 3) ls (.ref q :: rest))) : W p l e R s m args below meth c H locs cells slots Q (F0 m pc ls rest) := by
  obtain ⟨hA, hS, w, hP, hD, hW⟩ := hM
  exact va_new (ci := ci) (fs := fs) (C := C) (T := T) (N := N) S.1 S.2.1 S.2.2.2.2 hC.2.1 ty hC.2.2.1 S.2.2.2.1 (S.2.2.2.2 _ hcl) (S.2.2.2.2 _ hinst) (S.2.2.2.2 _ hini) hK.1 hP hD hS hA hC.1 hfs hcells hslots hdg (fun q H1 hP1 hD1 hS1 => kk q H1 _ (hW.push hD1).1 rfl ⟨hA, hS1, _, hP1, hD1, (hW.push hD1).2⟩)
theorem hm_iald (S : CallFix p m c cc nL s args lw_all own) (hK : KK D cT s) (hP : HPr D M H) {n : Nat} {f : Nat → Int32} (ha : M a = some (.inl (cT 2, n, .inl f))) {i : Int32} (hin : vp_in i n) (hdg : decode cc pc = .ok (.iaload, 1))
    (kk : W p l e R s m args below meth c H locs cells slots Q (F0 m (pc + 1) ls (.int (f i.toNatClampNeg) :: rest))) : W p l e R s m args below meth c H locs cells slots Q (F0 m pc ls (.int i :: .ref a :: rest)) := va_iald S.1 S.2.1 hK.1 (hP.one ha) 0 2 rfl rfl hin hdg kk
theorem hm_zald (S : CallFix p m c cc nL s args lw_all own) (hK : KK D cT s) (hP : HPr D M H) {n : Nat} {f : Nat → Int32} (ha : M a = some (.inl (cT 4, n, .inl f))) {i : Int32} (hin : vp_in i n) (hdg : decode cc pc = .ok (.baload, 1))
    (kk : W p l e R s m args below meth c H locs cells slots Q (F0 m (pc + 1) ls (.int (f i.toNatClampNeg) :: rest))) : W p l e R s m args below meth c H locs cells slots Q (F0 m pc ls (.int i :: .ref a :: rest)) := va_zald S.1 S.2.1 hK.1 (hP.one ha) 0 4 rfl rfl hin hdg kk
theorem hm_lald (S : CallFix p m c cc nL s args lw_all own) (hK : KK D cT s) (hP : HPr D M H) {n : Nat} {f : Nat → Int64} (ha : M a = some (.inl (cT 3, n, .inr (.inl f)))) {i : Int32} (hin : vp_in i n) (hdg : decode cc pc = .ok (.laload, 1))
    (kk : W p l e R s m args below meth c H locs cells slots Q (F0 m (pc + 1) ls (.long (f i.toNatClampNeg) :: rest))) : W p l e R s m args below meth c H locs cells slots Q (F0 m pc ls (.int i :: .ref a :: rest)) := va_lald S.1 S.2.1 hK.1 (hP.one ha) 0 3 rfl rfl hin hdg kk
theorem hm_fald (S : CallFix p m c cc nL s args lw_all own) (hK : KK D cT s) (hP : HPr D M H) {n : Nat} {f : Nat → UInt32} (ha : M a = some (.inl (cT 1, n, .inr (.inr (.inl f))))) {i : Int32} (hin : vp_in i n) (hdg : decode cc pc = .ok (.faload, 1))
    (kk : W p l e R s m args below meth c H locs cells slots Q (F0 m (pc + 1) ls (.float (f i.toNatClampNeg) :: rest))) : W p l e R s m args below meth c H locs cells slots Q (F0 m pc ls (.int i :: .ref a :: rest)) := va_fald S.1 S.2.1 hK.1 (hP.one ha) 0 1 rfl rfl hin hdg kk
theorem hm_dald (S : CallFix p m c cc nL s args lw_all own) (hK : KK D cT s) (hP : HPr D M H) {n : Nat} {f : Nat → UInt64} (ha : M a = some (.inl (cT 0, n, .inr (.inr (.inr (.inl f)))))) {i : Int32} (hin : vp_in i n) (hdg : decode cc pc = .ok (.daload, 1))
    (kk : W p l e R s m args below meth c H locs cells slots Q (F0 m (pc + 1) ls (.double (f i.toNatClampNeg) :: rest))) : W p l e R s m args below meth c H locs cells slots Q (F0 m pc ls (.int i :: .ref a :: rest)) := va_dald S.1 S.2.1 hK.1 (hP.one ha) 0 0 rfl rfl hin hdg kk
/-- a place of an array of our objects: t0 is the class's place among the types -/
theorem hm_aald (S : CallFix p m c cc nL s args lw_all own) (hK : KK D cT s) (hP : HPr D M H) (t0 : Nat) {C : String} {n : Nat} {f : Nat → Option Nat} (ha : M a = some (.inl (cT t0, n, .inr (.inr (.inr (.inr f)))))) (ht : (tysL cT)[t0]? = some (cT t0, .object C)) {i : Int32} (hin : vp_in i n) (hdg : decode cc pc = .ok (.aaload, 1))
    (kk : W p l e R s m args below meth c H locs cells slots Q (F0 m (pc + 1) ls (va_rf (f i.toNatClampNeg) :: rest))) : W p l e R s m args below meth c H locs cells slots Q (F0 m pc ls (.int i :: .ref a :: rest)) := va_aldq S.1 S.2.1 hK.1 (hP.one ha) 0 t0 rfl ht hin hdg kk
theorem hm_aaldA (S : CallFix p m c cc nL s args lw_all own) (hK : KK D cT s) (hP : HPr D M H) {n : Nat} {f : Nat → Option Nat} (ha : M a = some (.inl (cT 8, n, .inr (.inr (.inr (.inr f)))))) {i : Int32} (hin : vp_in i n) (hdg : decode cc pc = .ok (.aaload, 1))
    (kk : W p l e R s m args below meth c H locs cells slots Q (F0 m (pc + 1) ls (va_rf (f i.toNatClampNeg) :: rest))) : W p l e R s m args below meth c H locs cells slots Q (F0 m pc ls (.int i :: .ref a :: rest)) := by
  have hlt : i.toNatClampNeg < n := Nat.not_le.mp fun q => hin (Or.inr q)
  exact W.aald (v := va_rf (f i.toNatClampNeg)) (ty := .array .double) S.1 S.2.1 (hP a _ ha) ((hK.1.2 8 _ rfl).1 n (fun j => va_rf (f j))) rfl (fun q => by cases q) (by show ¬ (i < 0 ∨ (arrV _ _ _).slots.size ≤ _); rw [arrV_size]; exact hin) (by show (arrV _ _ _).slots[_]? = _; rw [arrV_read _ _ hlt]) rfl rfl hdg kk
/-- the length of a row of doubles -/
theorem hm_alen (S : CallFix p m c cc nL s args lw_all own) (hK : KK D cT s) (hP : HPr D M H) {x : vp_A} (ha : M a = some (.inl (cT 0, x))) {v : Int32} (hv : Int32.ofNat x.1 = v) (hdg : decode cc pc = .ok (.arraylength, 1))
    (kk : W p l e R s m args below meth c H locs cells slots Q (F0 m (pc + 1) ls (.int v :: rest))) : W p l e R s m args below meth c H locs cells slots Q (F0 m pc ls (.ref a :: rest)) := va_alen S.1 S.2.1 hK.1 (hP.one ha) 0 0 rfl rfl hv hdg kk
theorem hm_iast (S : CallFix p m c cc nL s args lw_all own) (hK : KK D cT s) (hM : HM D A M H0 H locs) {n : Nat} {f : Nat → Int32} (ha : M a = some (.inl (cT 2, n, .inl f))) {i x : Int32} (hin : vp_in i n) (hdg : decode cc pc = .ok (.iastore, 1))
    (kk : ∀ (H1 : Heap) (locs1 : List Loc) (M1 : hmp), M1 = va_up M a (some (.inl (cT 2, n, .inl (upd f i.toNatClampNeg x)))) → HM D A M1 H0 H1 locs1 → W p l e R s m args below meth c H1 locs1 cells slots Q (F0 m (pc + 1) ls rest)) : W p l e R s m args below meth c H locs cells slots Q (F0 m pc ls (.int x :: .int i :: .ref a :: rest)) := by
  obtain ⟨hA, hS, w, hP, hD, hW⟩ := hM
  obtain ⟨q, hq⟩ := (hW _ _).mp ha
  exact va_iast S.1 S.2.1 hK.1 hP hD hS q 2 hq rfl hin hdg (fun H1 l1 hP1 hD1 hS1 => kk H1 l1 _ rfl ⟨hA, hS1, _, hP1, hD1, hW.set hD hq _⟩)
theorem hm_zast (S : CallFix p m c cc nL s args lw_all own) (hK : KK D cT s) (hM : HM D A M H0 H locs) {n : Nat} {f : Nat → Int32} (ha : M a = some (.inl (cT 4, n, .inl f))) {i x : Int32} (hin : vp_in i n) (hdg : decode cc pc = .ok (.bastore, 1))
    (kk : ∀ (H1 : Heap) (locs1 : List Loc) (M1 : hmp), M1 = va_up M a (some (.inl (cT 4, n, .inl (upd f i.toNatClampNeg (vp_nar .boolean x))))) → HM D A M1 H0 H1 locs1 → W p l e R s m args below meth c H1 locs1 cells slots Q (F0 m (pc + 1) ls rest)) : W p l e R s m args below meth c H locs cells slots Q (F0 m pc ls (.int x :: .int i :: .ref a :: rest)) := by
  obtain ⟨hA, hS, w, hP, hD, hW⟩ := hM
  obtain ⟨q, hq⟩ := (hW _ _).mp ha
  exact va_zast S.1 S.2.1 hK.1 hP hD hS q 4 hq rfl hin hdg (fun H1 l1 hP1 hD1 hS1 => kk H1 l1 _ rfl ⟨hA, hS1, _, hP1, hD1, hW.set hD hq _⟩)
theorem hm_last (S : CallFix p m c cc nL s args lw_all own) (hK : KK D cT s) (hM : HM D A M H0 H locs) {n : Nat} {f : Nat → Int64} (ha : M a = some (.inl (cT 3, n, .inr (.inl f)))) {i : Int32} {x : Int64} (hin : vp_in i n) (hdg : decode cc pc = .ok (.lastore, 1))
    (kk : ∀ (H1 : Heap) (locs1 : List Loc) (M1 : hmp), M1 = va_up M a (some (.inl (cT 3, n, .inr (.inl (vp_updL f i.toNatClampNeg x))))) → HM D A M1 H0 H1 locs1 → W p l e R s m args below meth c H1 locs1 cells slots Q (F0 m (pc + 1) ls rest)) : W p l e R s m args below meth c H locs cells slots Q (F0 m pc ls (.long x :: .int i :: .ref a :: rest)) := by
  obtain ⟨hA, hS, w, hP, hD, hW⟩ := hM
  obtain ⟨q, hq⟩ := (hW _ _).mp ha
  exact va_last S.1 S.2.1 hK.1 hP hD hS q 3 hq rfl hin hdg (fun H1 l1 hP1 hD1 hS1 => kk H1 l1 _ rfl ⟨hA, hS1, _, hP1, hD1, hW.set hD hq _⟩)
theorem hm_fast (S : CallFix p m c cc nL s args lw_all own) (hK : KK D cT s) (hM : HM D A M H0 H locs) {n : Nat} {f : Nat → UInt32} (ha : M a = some (.inl (cT 1, n, .inr (.inr (.inl f))))) {i : Int32} {x : UInt32} (hin : vp_in i n) (hdg : decode cc pc = .ok (.fastore, 1))
    (kk : ∀ (H1 : Heap) (locs1 : List Loc) (M1 : hmp), M1 = va_up M a (some (.inl (cT 1, n, .inr (.inr (.inl (vf_upd f i.toNatClampNeg x)))))) → HM D A M1 H0 H1 locs1 → W p l e R s m args below meth c H1 locs1 cells slots Q (F0 m (pc + 1) ls rest)) : W p l e R s m args below meth c H locs cells slots Q (F0 m pc ls (.float x :: .int i :: .ref a :: rest)) := by
  obtain ⟨hA, hS, w, hP, hD, hW⟩ := hM
  obtain ⟨q, hq⟩ := (hW _ _).mp ha
  exact va_fast S.1 S.2.1 hK.1 hP hD hS q 1 hq rfl hin hdg (fun H1 l1 hP1 hD1 hS1 => kk H1 l1 _ rfl ⟨hA, hS1, _, hP1, hD1, hW.set hD hq _⟩)
theorem hm_dast (S : CallFix p m c cc nL s args lw_all own) (hK : KK D cT s) (hM : HM D A M H0 H locs) {n : Nat} {f : Nat → UInt64} (ha : M a = some (.inl (cT 0, n, .inr (.inr (.inr (.inl f)))))) {i : Int32} {x : UInt64} (hin : vp_in i n) (hdg : decode cc pc = .ok (.dastore, 1))
    (kk : ∀ (H1 : Heap) (locs1 : List Loc) (M1 : hmp), M1 = va_up M a (some (.inl (cT 0, n, .inr (.inr (.inr (.inl (vf_upd f i.toNatClampNeg x))))))) → HM D A M1 H0 H1 locs1 → W p l e R s m args below meth c H1 locs1 cells slots Q (F0 m (pc + 1) ls rest)) : W p l e R s m args below meth c H locs cells slots Q (F0 m pc ls (.double x :: .int i :: .ref a :: rest)) := by
  obtain ⟨hA, hS, w, hP, hD, hW⟩ := hM
  obtain ⟨q, hq⟩ := (hW _ _).mp ha
  exact va_dast S.1 S.2.1 hK.1 hP hD hS q 0 hq rfl hin hdg (fun H1 l1 hP1 hD1 hS1 => kk H1 l1 _ rfl ⟨hA, hS1, _, hP1, hD1, hW.set hD hq _⟩)
/-- a store of an object of ours into a row of its class -/
theorem hm_aast (S : CallFix p m c cc nL s args lw_all own) (hK : KK D cT s) (hM : HM D A M H0 H locs) (t0 : Nat) {ci : Nat} {r : vw_C} {n v : Nat} {vs : List Value} {f : Nat → Option Nat} (ha : M a = some (.inl (cT t0, n, .inr (.inr (.inr (.inr f)))))) (ht : (tysL cT)[t0]? = some (cT t0, .object r.1)) (hv : M v = some (.inr (ci, vs))) (hc : vwCl[ci]? = some r) {i : Int32} (hin : vp_in i n) (hdg : decode cc pc = .ok (.aastore, 1))
    (kk : ∀ (H1 : Heap) (locs1 : List Loc) (M1 : hmp), M1 = va_up M a (some (.inl (cT t0, n, .inr (.inr (.inr (.inr (va_up f i.toNatClampNeg (some v)))))))) → HM D A M1 H0 H1 locs1 → W p l e R s m args below meth c H1 locs1 cells slots Q (F0 m (pc + 1) ls rest)) : W p l e R s m args below meth c H locs cells slots Q (F0 m pc ls (.ref v :: .int i :: .ref a :: rest)) := by
  obtain ⟨hA, hS, w, hP, hD, hW⟩ := hM
  obtain ⟨q, hq⟩ := (hW _ _).mp ha
  obtain ⟨q2, hq2⟩ := (hW _ _).mp hv
  exact va_astq S.1 S.2.1 hK.1 hP hD hS q t0 q2 ci hq ht hq2 hc hin hdg (fun H1 l1 hP1 hD1 hS1 => kk H1 l1 _ rfl ⟨hA, hS1, _, hP1, hD1, hW.set hD hq _⟩)
theorem hm_aastN (S : CallFix p m c cc nL s args lw_all own) (hK : KK D cT s) (hM : HM D A M H0 H locs) (t0 : Nat) {C : String} {n : Nat} {f : Nat → Option Nat} (ha : M a = some (.inl (cT t0, n, .inr (.inr (.inr (.inr f)))))) (ht : (tysL cT)[t0]? = some (cT t0, .object C)) {i : Int32} (hin : vp_in i n) (hdg : decode cc pc = .ok (.aastore, 1))
    (kk : ∀ (H1 : Heap) (locs1 : List Loc) (M1 : hmp), M1 = va_up M a (some (.inl (cT t0, n, .inr (.inr (.inr (.inr (va_up f i.toNatClampNeg none))))))) → HM D A M1 H0 H1 locs1 → W p l e R s m args below meth c H1 locs1 cells slots Q (F0 m (pc + 1) ls rest)) : W p l e R s m args below meth c H locs cells slots Q (F0 m pc ls (.null :: .int i :: .ref a :: rest)) := by
  obtain ⟨hA, hS, w, hP, hD, hW⟩ := hM
  obtain ⟨q, hq⟩ := (hW _ _).mp ha
  exact va_astqN S.1 S.2.1 hK.1 hP hD hS q t0 hq ht hin hdg (fun H1 l1 hP1 hD1 hS1 => kk H1 l1 _ rfl ⟨hA, hS1, _, hP1, hD1, hW.set hD hq _⟩)
theorem cell_up {cA : ClassId} {n : Nat} {f : Nat → Option Nat} {k : Nat} (o : Option Nat) : (vp_cell cA (n, .inr (.inr (.inr (.inr f))))).setSlot k (va_rf o) = vp_cell cA (n, .inr (.inr (.inr (.inr (va_up f k o))))) := by
  rw [vp_cell_q, vp_cell_q, arrV_store]
  congr 2
  funext q
  by_cases hq : q = k
  · subst hq
    simp [updV, va_up]
  · simp [updV, va_up, hq]
/-- a row of doubles into a row of rows -/
theorem hm_aastA (S : CallFix p m c cc nL s args lw_all own) (hK : KK D cT s) (hM : HM D A M H0 H locs) {n v : Nat} {x : vp_A} {f : Nat → Option Nat} (ha : M a = some (.inl (cT 8, n, .inr (.inr (.inr (.inr f)))))) (hv : M v = some (.inl (cT 0, x))) {i : Int32} (hin : vp_in i n) (hdg : decode cc pc = .ok (.aastore, 1))
    (kk : ∀ (H1 : Heap) (locs1 : List Loc) (M1 : hmp), M1 = va_up M a (some (.inl (cT 8, n, .inr (.inr (.inr (.inr (va_up f i.toNatClampNeg (some v)))))))) → HM D A M1 H0 H1 locs1 → W p l e R s m args below meth c H1 locs1 cells slots Q (F0 m (pc + 1) ls rest)) : W p l e R s m args below meth c H locs cells slots Q (F0 m pc ls (.ref v :: .int i :: .ref a :: rest)) := by
  obtain ⟨hA, hS, w, hP, hD, hW⟩ := hM
  obtain ⟨q, hq⟩ := (hW _ _).mp ha
  obtain ⟨q2, hq2⟩ := (hW _ _).mp hv
  have hlt : i.toNatClampNeg < n := Nat.not_le.mp fun q => hin (Or.inr q)
  have h0 : ¬ i < 0 := fun q => hin (Or.inl q)
  obtain ⟨⟨kA, k1, k2⟩, kD, k3⟩ := hK.2.1
  have hcv : H[v]? = some (vp_cell (cT 0) x) := hP q2 _ hq2
  have hvm : (vp_cell (cT 0) x).vm = .none ∧ (vp_cell (cT 0) x).cls = cT 0 := by obtain ⟨n, f | f | f | f | f⟩ := x <;> exact ⟨rfl, rfl⟩
  refine W.aast S.1 S.2.1 (hP q _ hq) (fun q h => by cases h) (fun h => by cases h) k1 k2 rfl k3 ⟨h0, by show _ < (arrV _ _ _).slots.size; rw [arrV_size]; exact hlt⟩ hcv (fun q h => by rw [hvm.1] at h; cases h) (by rw [hvm.2]; exact k3) (by rw [hvm.2]; exact asg_self _ _) rfl rfl hdg fun H1 e z oq => ?_
  refine kk H1 _ _ rfl ⟨hA, hS.put z oq (hD.2 q _ hq), _, hP.set hD hq ?_ oq, hD.set hq, hW.set hD hq _⟩
  show H1[a]? = some (vp_cell _ _)
  rw [e]
  exact congrArg some (cell_up (some v))
theorem hm_aastAN (S : CallFix p m c cc nL s args lw_all own) (hK : KK D cT s) (hM : HM D A M H0 H locs) {n : Nat} {f : Nat → Option Nat} (ha : M a = some (.inl (cT 8, n, .inr (.inr (.inr (.inr f)))))) {i : Int32} (hin : vp_in i n) (hdg : decode cc pc = .ok (.aastore, 1))
    (kk : ∀ (H1 : Heap) (locs1 : List Loc) (M1 : hmp), M1 = va_up M a (some (.inl (cT 8, n, .inr (.inr (.inr (.inr (va_up f i.toNatClampNeg none))))))) → HM D A M1 H0 H1 locs1 → W p l e R s m args below meth c H1 locs1 cells slots Q (F0 m (pc + 1) ls rest)) : W p l e R s m args below meth c H locs cells slots Q (F0 m pc ls (.null :: .int i :: .ref a :: rest)) := by
  obtain ⟨hA, hS, w, hP, hD, hW⟩ := hM
  obtain ⟨q, hq⟩ := (hW _ _).mp ha
  have hc : H[a]? = some (vp_cell (cT 8) (n, .inr (.inr (.inr (.inr f))))) := hP q _ hq
  have hsz : (vp_cell (cT 8) (n, .inr (.inr (.inr (.inr f))))).slots.size = n := arrV_size _ _ _
  have harr := (hK.1.2 8 _ rfl).1 n (fun j => va_rf (f j))
  intro T hT X
  have hT' : T.heap[a]? = some (vp_cell (cT 8) (n, .inr (.inr (.inr (.inr f))))) := by rw [hT]; exact hc
  have hlt : a < T.heap.size := (Array.getElem?_eq_some_iff.mp hT').1
  have hTa := State.isArrayOf_alike X.warmed.alike harr
  have hfit : T.fitsSlot (vp_cell (cT 8) (n, .inr (.inr (.inr (.inr f))))).cls (vp_cell (cT 8) (n, .inr (.inr (.inr (.inr f))))).vm i.toNatClampNeg .null = true := by
    obtain ⟨hobj, k, hk, comp, hkind⟩ := hTa
    have hk' : T.vm.classes[(vp_cell (cT 8) (n, .inr (.inr (.inr (.inr f))))).cls]? = some k := hk
    show T.fitsSlot (vp_cell (cT 8) (n, .inr (.inr (.inr (.inr f))))).cls .none i.toNatClampNeg .null = true
    simp [State.fitsSlot, State.slotType?, hk', hkind, fits]
  have X' := X.stored hT' i.toNatClampNeg .null
  have oq : ∀ q : Nat, q ≠ a → (T.setCell a ((vp_cell (cT 8) (n, .inr (.inr (.inr (.inr f))))).setSlot i.toNatClampNeg .null)).heap[q]? = H[q]? := fun q hq => by rw [heapAt_setCell_ne _ (Ne.symm hq), hT]
  have z : (T.setCell a ((vp_cell (cT 8) (n, .inr (.inr (.inr (.inr f))))).setSlot i.toNatClampNeg .null)).heap.size = H.size := by rw [size_setCell, hT]
  obtain ⟨t', a1, b1⟩ := kk _ _ _ rfl ⟨hA, hS.put z oq (hD.2 q _ hq), _, hP.set (e := .inl (cT 8, n, .inr (.inr (.inr (.inr (va_up f i.toNatClampNeg none)))))) hD hq (by show _ = some (vp_cell _ _); rw [heapAt_setCell_self _ hlt]; exact congrArg some (cell_up none)) oq, hD.set hq, hW.set hD hq _⟩ _ rfl X'
  refine ⟨t', ?_, b1⟩
  have hdg' : decode c.code (F0 m pc ls (.null :: .int i :: .ref a :: rest)).pc = .ok (.aastore, 1) := by rw [S.2.1]; exact hdg
  jvm_step X.here [S.1, hdg']
  refine aastore.wp_of_null (c := vp_cell (cT 8) (n, .inr (.inr (.inr (.inr f))))) (t := .array .double) X.here.top rfl hT' hTa (by rw [hsz]; exact hin) (fun h => by cases h) (by rw [hsz]; exact Nat.not_le.mp fun q => hin (Or.inr q)) hfit ?_
  intro acts
  rw [afterInstr_ok]
  exact a1
end HMR
