/-! the class's cells over the same state. Keys: 0: what is made once; 1: rows; 2: effects; 3: racks; 4: their places; 5: heads -/
def orf (f : Nat → Nat) (x : Int32) : Option Nat := if x < 0 then none else some (f (cl x))
def cx (cT : Nat → ClassId) (fu fd : Nat → UInt64) (ad : Nat → Nat → Nat) (z : SG) (c i : Nat) : va_E :=
  match c with
  | 0 => match i with
    | 0 => .inr (4, [.ref (ad 0 1), .ref (ad 0 4), .ref (ad 0 5), .ref (ad 0 6), .ref (ad 0 7), .ref (ad 0 8), .ref (ad 0 9), .int (z.1 0 2), .long (z.2.2 1 0), .long (z.2.2 1 1)])
    | 1 => .inr (2, [.ref (ad 0 2), .ref (ad 0 3)])
    | 2 => .inl (cT 0, 10, rD fu)
    | 3 => .inl (cT 0, 10, rD fd)
    | 4 => .inl (cT 8, 6, rQ (fun k => if k < 6 then orf (ad 1) (z.1 2 k) else none))
    | 5 => .inl (cT 8, 6, rQ (fun k => if k < 6 then orf (ad 1) (z.1 2 (6 + k)) else none))
    | 6 => .inl (cT 5, 6, rQ (fun k => if k < 6 then orf (ad 2) (z.1 4 k) else none))
    | 7 => .inl (cT 7, 3, rQ (fun k => if k < 3 then (if z.1 5 k < 0 then none else some (ad 3 k)) else none))
    | 8 => .inl (cT 6, 4, rQ (fun k => if k < 4 then (if z.1 7 k = 0 then none else some (ad 5 k)) else none))
    | _ => .inl (cT 1, 8, rF (fun k => if k < 8 then FP.d2f (z.2.1 4 k) else 0))
  | 1 => .inl (cT 0, cl (z.1 1 i), rD (fun j => if j < 16 then z.2.1 0 (16 * i + j) else 0))
  | 2 => .inr (0, [.int (z.1 3 i), .double (z.2.1 1 i)])
  | 3 => .inr (3, [.int (z.1 5 i), .ref (ad 4 i)])
  | 4 => .inl (cT 5, 3, rQ (fun j => if j < 3 then orf (ad 2) (z.1 6 (3 * i + j)) else none))
  | _ => .inr (1, [.int (z.1 8 i), .int (z.1 9 i), .int (z.1 10 i), .double (z.2.1 2 i), .double (z.2.1 3 i), .long (z.2.2 0 i)])
def val (z : SG) (c i : Nat) : Prop :=
  match c with
  | 0 => i < 10
  | 1 => i < cl (z.1 0 0)
  | 2 => i < cl (z.1 0 1)
  | 3 => i < 3 ∧ ¬ z.1 5 i < 0
  | 4 => i < 3 ∧ ¬ z.1 5 i < 0
  | 5 => i < 4 ∧ ¬ z.1 7 i = 0
  | _ => False
def XS (cT : Nat → ClassId) (fu fd : Nat → UInt64) (ad : Nat → Nat → Nat) (M : hmp) (z : SG) : Prop := (∀ c i, val z c i → M (ad c i) = some (cx cT fu fd ad z c i)) ∧ (∀ c i c' i', val z c i → val z c' i' → ad c i = ad c' i' → c = c' ∧ i = i') ∧ (∀ i, i < 10 → fu i = upf i) ∧ ∀ i, i < 10 → fd i = dnf i
section XSS
variable {cT : Nat → ClassId} {fu fd : Nat → UInt64} {ad ad' : Nat → Nat → Nat} {M M1 : hmp} {z z' : SG}
theorem to6 {P : Nat → Prop} (h : P 0 ∧ P 1 ∧ P 2 ∧ P 3 ∧ P 4 ∧ P 5) (hz : ∀ c, 6 ≤ c → P c) (c : Nat) : P c := by
  obtain ⟨h0, h1, h2, h3, h4, h5⟩ := h
  by_cases q : 6 ≤ c
  · exact hz c q
  · rcases (show c = 0 ∨ c = 1 ∨ c = 2 ∨ c = 3 ∨ c = 4 ∨ c = 5 by omega) with rfl | rfl | rfl | rfl | rfl | rfl <;> assumption
theorem val6 {c i : Nat} (h : 6 ≤ c) : ¬ val z c i := by
  obtain ⟨d, rfl⟩ : ∃ d, c = d + 6 := ⟨c - 6, by omega⟩
  exact id
theorem to10 {P : Nat → Prop} (h : P 0 ∧ P 1 ∧ P 2 ∧ P 3 ∧ P 4 ∧ P 5 ∧ P 6 ∧ P 7 ∧ P 8 ∧ P 9) : ∀ i, i < 10 → P i := by
  intro i hi
  obtain ⟨h0, h1, h2, h3, h4, h5, h6, h7, h8, h9⟩ := h
  rcases (show i = 0 ∨ i = 1 ∨ i = 2 ∨ i = 3 ∨ i = 4 ∨ i = 5 ∨ i = 6 ∨ i = 7 ∨ i = 8 ∨ i = 9 by omega) with rfl | rfl | rfl | rfl | rfl | rfl | rfl | rfl | rfl | rfl <;> assumption
/-- one cell changes -/
theorem XS.set {c i : Nat} (h : XS cT fu fd ad M z) (hv : val z c i) (hval : ∀ c' i', val z' c' i' → val z c' i') (hM : M1 = va_up M (ad c i) (some (cx cT fu fd ad z' c i))) (hc : ∀ c' i', val z c' i' → ¬ (c' = c ∧ i' = i) → cx cT fu fd ad z' c' i' = cx cT fu fd ad z c' i') : XS cT fu fd ad M1 z' := by
  subst hM
  refine ⟨fun c' i' hv' => ?_, fun c1 i1 c2 i2 h1 h2 e => h.2.1 c1 i1 c2 i2 (hval _ _ h1) (hval _ _ h2) e, h.2.2⟩
  have hw := hval c' i' hv'
  by_cases e : c' = c ∧ i' = i
  · rw [e.1, e.2, va_up_self]
  · rw [va_up_ne _ _ (fun q => e (h.2.1 c' i' c i hw hv q)), hc c' i' hw e]
    exact h.1 c' i' hw
/-- a fresh cell stands beside -/
theorem XS.frame {q : Nat} {e : va_E} (h : XS cT fu fd ad M z) (hq : M q = none) (hM : M1 = va_up M q (some e)) : XS cT fu fd ad M1 z ∧ (∀ c i, val z c i → ad c i ≠ q) := by
  subst hM
  have hne : ∀ c i, val z c i → ad c i ≠ q := fun c i hv w => by have := h.1 c i hv; rw [w, hq] at this; cases this
  exact ⟨⟨fun c i hv => by rw [va_up_ne _ _ (hne c i hv)]; exact h.1 c i hv, h.2⟩, hne⟩
/-- a change of another cell than ours -/
theorem XS.beside {q : Nat} {e : va_E} (h : XS cT fu fd ad M z) (hne : ∀ c i, val z c i → ad c i ≠ q) (hM : M1 = va_up M q (some e)) : XS cT fu fd ad M1 z := by
  subst hM
  exact ⟨fun c i hv => by rw [va_up_ne _ _ (hne c i hv)]; exact h.1 c i hv, h.2⟩
/-- fresh cells become ours, as a slot is made to lead to them -/
theorem XS.put {j : Nat} (fr : Nat → Nat → Prop) (h : XS cT fu fd ad M z) (hj : j < 10) (hA : ∀ c i, val z' c i → ¬ fr c i → val z c i ∧ ad' c i = ad c i) (hB : ∀ c i, fr c i → ∀ c' i', val z c' i' → ad c' i' ≠ ad' c i) (hC : ∀ c i c' i', fr c i → fr c' i' → ad' c i = ad' c' i' → c = c' ∧ i = i') (h0 : ¬ fr 0 j) (hM : M1 = va_up M (ad 0 j) (some (cx cT fu fd ad' z' 0 j))) (hF : ∀ c i, fr c i → M (ad' c i) = some (cx cT fu fd ad' z' c i)) (hc : ∀ c i, val z' c i → val z c i → ¬ fr c i → ¬ (c = 0 ∧ i = j) → cx cT fu fd ad' z' c i = cx cT fu fd ad z c i) : XS cT fu fd ad' M1 z' := by
  have v0 : val z 0 j := hj
  have v0' : val z' 0 j := hj
  subst hM
  refine ⟨fun c i hv => ?_, fun c1 i1 c2 i2 h1 h2 e => ?_, h.2.2⟩
  · by_cases e : c = 0 ∧ i = j
    · rw [e.1, e.2, (hA 0 j v0' h0).2, va_up_self]
    · by_cases f : fr c i
      · rw [va_up_ne _ _ (Ne.symm (hB c i f 0 j v0))]; exact hF c i f
      · obtain ⟨w1, w2⟩ := hA c i hv f
        rw [hc c i hv w1 f e, w2, va_up_ne _ _ (fun q => e (h.2.1 c i 0 j w1 v0 q))]
        exact h.1 c i w1
  · by_cases f1 : fr c1 i1
    · by_cases f2 : fr c2 i2
      · exact hC c1 i1 c2 i2 f1 f2 e
      · obtain ⟨w1, w2⟩ := hA c2 i2 h2 f2
        rw [w2] at e
        exact absurd e.symm (hB c1 i1 f1 c2 i2 w1)
    · obtain ⟨w1, w2⟩ := hA c1 i1 h1 f1
      rw [w2] at e
      by_cases f2 : fr c2 i2
      · exact absurd e (hB c2 i2 f2 c1 i1 w1)
      · obtain ⟨w3, w4⟩ := hA c2 i2 h2 f2
        rw [w4] at e
        exact h.2.1 c1 i1 c2 i2 w1 w3 e
theorem XS.c0 (h : XS cT fu fd ad M z) : M (ad 0 0) = some (.inr (4, [.ref (ad 0 1), .ref (ad 0 4), .ref (ad 0 5), .ref (ad 0 6), .ref (ad 0 7), .ref (ad 0 8), .ref (ad 0 9), .int (z.1 0 2), .long (z.2.2 1 0), .long (z.2.2 1 1)])) := h.1 0 0 (by show 0 < 10; decide)
theorem XS.num (h : XS cT fu fd ad M z) : NUM cT M (ad 0 1) (ad 0 2) (ad 0 3) fu fd := ⟨h.1 0 1 (by show 1 < 10; decide), h.1 0 2 (by show 2 < 10; decide), h.1 0 3 (by show 3 < 10; decide), h.2.2⟩
abbrev rws (cv : Int32) : Nat := if cv = 0 then 4 else 5
theorem XS.rows (h : XS cT fu fd ad M z) (cv : Int32) : M (ad 0 (rws cv)) = some (.inl (cT 8, 6, rQ (fun k => if k < 6 then orf (ad 1) (z.1 2 (if cv = 0 then k else 6 + k)) else none))) := by
  by_cases c : cv = 0
  · simp only [rws, if_pos c]; exact h.1 0 4 (by show 4 < 10; decide)
  · simp only [rws, if_neg c]; exact h.1 0 5 (by show 5 < 10; decide)
theorem XS.effs (h : XS cT fu fd ad M z) : M (ad 0 6) = some (.inl (cT 5, 6, rQ (fun k => if k < 6 then orf (ad 2) (z.1 4 k) else none))) := h.1 0 6 (by show 6 < 10; decide)
theorem XS.rcks (h : XS cT fu fd ad M z) : M (ad 0 7) = some (.inl (cT 7, 3, rQ (fun k => if k < 3 then (if z.1 5 k < 0 then none else some (ad 3 k)) else none))) := h.1 0 7 (by show 7 < 10; decide)
theorem XS.hds (h : XS cT fu fd ad M z) : M (ad 0 8) = some (.inl (cT 6, 4, rQ (fun k => if k < 4 then (if z.1 7 k = 0 then none else some (ad 5 k)) else none))) := h.1 0 8 (by show 8 < 10; decide)
theorem XS.mixd (h : XS cT fu fd ad M z) : M (ad 0 9) = some (.inl (cT 1, 8, rF (fun k => if k < 8 then FP.d2f (z.2.1 4 k) else 0))) := h.1 0 9 (by show 9 < 10; decide)
theorem XS.row {i : Nat} (h : XS cT fu fd ad M z) (hi : i < cl (z.1 0 0)) : M (ad 1 i) = some (.inl (cT 0, cl (z.1 1 i), rD (fun j => if j < 16 then z.2.1 0 (16 * i + j) else 0))) := h.1 1 i hi
theorem XS.eff {i : Nat} (h : XS cT fu fd ad M z) (hi : i < cl (z.1 0 1)) : M (ad 2 i) = some (.inr (0, [.int (z.1 3 i), .double (z.2.1 1 i)])) := h.1 2 i hi
theorem XS.rck {i : Nat} (h : XS cT fu fd ad M z) (hi : i < 3) (h5 : ¬ z.1 5 i < 0) : M (ad 3 i) = some (.inr (3, [.int (z.1 5 i), .ref (ad 4 i)])) := h.1 3 i ⟨hi, h5⟩
theorem XS.plc {i : Nat} (h : XS cT fu fd ad M z) (hi : i < 3) (h5 : ¬ z.1 5 i < 0) : M (ad 4 i) = some (.inl (cT 5, 3, rQ (fun j => if j < 3 then orf (ad 2) (z.1 6 (3 * i + j)) else none))) := h.1 4 i ⟨hi, h5⟩
theorem XS.hd {i : Nat} (h : XS cT fu fd ad M z) (hi : i < 4) (h7 : ¬ z.1 7 i = 0) : M (ad 5 i) = some (.inr (1, [.int (z.1 8 i), .int (z.1 9 i), .int (z.1 10 i), .double (z.2.1 2 i), .double (z.2.1 3 i), .long (z.2.2 0 i)])) := h.1 5 i ⟨hi, h7⟩
theorem INV.slr {n : Nat} (h : INV n z) (hn : n ≤ 512) {k : Nat} (hk : k < 12) (h0 : ¬ z.1 2 k < 0) : cl (z.1 2 k) < cl (z.1 0 0) := by
  obtain ⟨⟨r, h1, h2, h3, h4, -⟩, -⟩ := h
  rw [h2, cl_nI (by omega)]; exact (h4 k hk).resolve_left h0
theorem INV.efr {n : Nat} (h : INV n z) (hn : n ≤ 512) {k : Nat} (hk : k < 6) (h0 : ¬ z.1 4 k < 0) : cl (z.1 4 k) < cl (z.1 0 1) := by
  obtain ⟨-, ⟨r, h1, h2, h3, h4, -⟩, -⟩ := h
  rw [h2, cl_nI (by omega)]; exact (h4 k hk).resolve_left h0
theorem INV.hkr {n : Nat} (h : INV n z) (hn : n ≤ 512) {k : Nat} (hk : k < 9) (h0 : ¬ z.1 6 k < 0) : cl (z.1 6 k) < cl (z.1 0 1) := by
  obtain ⟨-, ⟨r, h1, h2, h3, -, h4⟩, -⟩ := h
  rw [h2, cl_nI (by omega)]; exact (h4 k hk).resolve_left h0
/-- fields of the mixer itself -/
theorem XS.f7 {x : Int32} (h : XS cT fu fd ad M z) (hM : M1 = va_up M (ad 0 0) (some (.inr (4, ([.ref (ad 0 1), .ref (ad 0 4), .ref (ad 0 5), .ref (ad 0 6), .ref (ad 0 7), .ref (ad 0 8), .ref (ad 0 9), .int (z.1 0 2), .long (z.2.2 1 0), .long (z.2.2 1 1)] : List Value).set 7 (.int x))))) : XS cT fu fd ad M1 (setI z 0 2 x) := by
  refine h.set (c := 0) (i := 0) (by show 0 < 10; decide) (fun c' i' => to6 (P := fun c' => val (setI z 0 2 x) c' i' → val z c' i') ⟨id, id, id, id, id, id⟩ (fun c q w => absurd w (val6 q)) c') hM (fun c' i' hv => ?_)
  refine to6 (P := fun c' => val z c' i' → ¬ (c' = 0 ∧ i' = 0) → cx cT fu fd ad (setI z 0 2 x) c' i' = cx cT fu fd ad z c' i') ⟨fun hi => ?_, fun _ _ => rfl, fun _ _ => rfl, fun _ _ => rfl, fun _ _ => rfl, fun _ _ => rfl⟩ (fun c q w => absurd w (val6 q)) c' hv
  exact to10 (P := fun i' => ¬ (0 = 0 ∧ i' = 0) → cx cT fu fd ad (setI z 0 2 x) 0 i' = cx cT fu fd ad z 0 i') ⟨fun q => absurd ⟨rfl, rfl⟩ q, fun _ => rfl, fun _ => rfl, fun _ => rfl, fun _ => rfl, fun _ => rfl, fun _ => rfl, fun _ => rfl, fun _ => rfl, fun _ => rfl⟩ i' hi
theorem XS.fL {k x0 : Nat} {x : Int64} (hk : k < 2) (h : XS cT fu fd ad M z) (hM : M1 = va_up M (ad 0 0) (some (.inr (4, ([.ref (ad 0 1), .ref (ad 0 4), .ref (ad 0 5), .ref (ad 0 6), .ref (ad 0 7), .ref (ad 0 8), .ref (ad 0 9), .int (z.1 0 2), .long (z.2.2 1 0), .long (z.2.2 1 1)] : List Value).set (8 + k) (.long x))))) : XS cT fu fd ad M1 (setL z 1 k x) := by
  have e : cx cT fu fd ad (setL z 1 k x) 0 0 = .inr (4, ([.ref (ad 0 1), .ref (ad 0 4), .ref (ad 0 5), .ref (ad 0 6), .ref (ad 0 7), .ref (ad 0 8), .ref (ad 0 9), .int (z.1 0 2), .long (z.2.2 1 0), .long (z.2.2 1 1)] : List Value).set (8 + k) (.long x)) := by
    rcases (show k = 0 ∨ k = 1 by omega) with rfl | rfl <;> rfl
  rw [← e] at hM
  refine h.set (c := 0) (i := 0) (by show 0 < 10; decide) (fun c' i' => to6 (P := fun c' => val (setL z 1 k x) c' i' → val z c' i') ⟨id, id, id, id, id, id⟩ (fun c q w => absurd w (val6 q)) c') hM (fun c' i' hv => ?_)
  refine to6 (P := fun c' => val z c' i' → ¬ (c' = 0 ∧ i' = 0) → cx cT fu fd ad (setL z 1 k x) c' i' = cx cT fu fd ad z c' i') ⟨fun hi => ?_, fun _ _ => rfl, fun _ _ => rfl, fun _ _ => rfl, fun _ _ => rfl, fun _ _ => rfl⟩ (fun c q w => absurd w (val6 q)) c' hv
  exact to10 (P := fun i' => ¬ (0 = 0 ∧ i' = 0) → cx cT fu fd ad (setL z 1 k x) 0 i' = cx cT fu fd ad z 0 i') ⟨fun q => absurd ⟨rfl, rfl⟩ q, fun _ => rfl, fun _ => rfl, fun _ => rfl, fun _ => rfl, fun _ => rfl, fun _ => rfl, fun _ => rfl, fun _ => rfl, fun _ => rfl⟩ i' hi
end XSS
