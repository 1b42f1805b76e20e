/-! the start: classes and array classes as the tables have them -/
theorem k_prim {args : Array Value} {s : State} {ty : FieldType} (h : (Cond.arrayClass ty).before args s = true) : ∃ c, (∃ k, s.vm.classes[c]? = some k) ∧ ArrOfT s c ty ∧ s.vm.findClass ("[" ++ ty.toString) = some c := by
  obtain ⟨c, k, comp, h1, h2, h3⟩ := Cond.arrayClass_spec h
  exact ⟨c, ⟨k, h2⟩, fun n z => ⟨fun k h => (by cases h), k, h2, comp, h3⟩, h1⟩
theorem k_obj {args : Array Value} {s : State} {C : String} (h : (Cond.arrayOver (.object C)).before args s = true) : ∃ c, ArrOfT s c (.object C) ∧ va_RA s c (.object C) := by
  obtain ⟨comp, c, k, h1, h2, h3, h4, h5⟩ := Cond.arrayOver_spec h
  exact ⟨c, fun n z => ⟨fun k h => (by cases h), k, h3, comp, h4⟩, k, comp, h3, h4, h1, h5⟩
theorem kk_start {args : Array Value} {s : State} (hts : ∀ w ∈ lw_tbl, w.before args s = true) : ∃ D cT, KK D cT s := by
  have hall : ∀ w ∈ lw_all, w.before args s = true := fun w hw => hts w (lw_sub hw)
  have htab : ∀ w ∈ tables_1, w.before args s = true := fun w hw => hts w (List.mem_append_right _ hw)
  obtain ⟨c0, i0, k0⟩ := u_known (C := RX0) (T := TX0) (N := 2) (n := 2) hall inX0 (hall _ w_1_175)
  obtain ⟨c1, i1, k1⟩ := u_known (C := RX1) (T := TX1) (N := 6) (n := 6) hall inX1 (hall _ w_2_8)
  obtain ⟨c2, i2, k2⟩ := u_known (C := RX2) (T := TX2) (N := 2) (n := 2) hall inX2 (hall _ w_1_19)
  obtain ⟨c3, i3, k3⟩ := u_known (C := RX3) (T := TX3) (N := 2) (n := 2) hall inX3 (hall _ w_1_214)
  obtain ⟨c4, i4, k4⟩ := u_known (C := RX4) (T := TX4) (N := 10) (n := 10) hall inX4 (hall _ w_1_11)
  obtain ⟨c5, i5, k5⟩ := u_known (C := RX5) (T := TX5) (N := 21) (n := 21) hall inX5 (hall _ w_2_95)
  obtain ⟨t0, ⟨kD, hkD⟩, a0, r0⟩ := k_prim (hall _ w_1_32)
  obtain ⟨t1, -, a1, r1⟩ := k_prim (hall _ w_1_72)
  obtain ⟨t2, -, a2, r2⟩ := k_prim (hall _ w_2_164)
  obtain ⟨t3, -, a3, r3⟩ := k_prim (hall _ w_2_166)
  obtain ⟨t4, -, a4, r4⟩ := k_prim (hall _ w_2_165)
  obtain ⟨t5, a5, r5⟩ := k_obj (htab _ w_1_36)
  obtain ⟨t6, a6, r6⟩ := k_obj (htab _ w_1_40)
  obtain ⟨t7, a7, r7⟩ := k_obj (htab _ w_1_38)
  have hA := htab _ w_1_34
  obtain ⟨comp, t8, kA, h1, h2, h3, h4, h5⟩ := arrayOverA_spec hA
  have hc : comp = t0 := Option.some.inj (h1.symm.trans r0)
  subst hc
  refine ⟨(fun c => match c with | 0 => c0 | 1 => c1 | 2 => c2 | 3 => c3 | 4 => c4 | _ => c5, fun c => match c with | 0 => i0 | 1 => i1 | 2 => i2 | 3 => i3 | 4 => i4 | _ => i5), fun k => match k with | 0 => comp | 1 => t1 | 2 => t2 | 3 => t3 | 4 => t4 | 5 => t5 | 6 => t6 | 7 => t7 | _ => t8, ⟨fun c q hq => ?_, fun k q hk => ?_⟩, ⟨⟨kA, h3, h4⟩, kD, hkD⟩, htab _ w_1_36, htab _ w_1_40, htab _ w_1_38, hA⟩
  · match c, hq with
    | 0, hq => cases hq; exact k0
    | 1, hq => cases hq; exact k1
    | 2, hq => cases hq; exact k2
    | 3, hq => cases hq; exact k3
    | 4, hq => cases hq; exact k4
    | 5, hq => cases hq; exact k5
    | c + 6, hq => exact absurd hq (by simp [vwCl])
  · match k, hk with
    | 0, hk => cases hk; exact ⟨a0, r0⟩
    | 1, hk => cases hk; exact ⟨a1, r1⟩
    | 2, hk => cases hk; exact ⟨a2, r2⟩
    | 3, hk => cases hk; exact ⟨a3, r3⟩
    | 4, hk => cases hk; exact ⟨a4, r4⟩
    | 5, hk => cases hk; exact ⟨a5, r5⟩
    | 6, hk => cases hk; exact ⟨a6, r6⟩
    | 7, hk => cases hk; exact ⟨a7, r7⟩
    | 8, hk => cases hk; exact ⟨fun n z => ⟨fun k h => (by cases h), kA, h3, comp, h4⟩, h5⟩
    | k + 9, hk => exact absurd hk (by simp)
/-! two worlds beside each other -/
section TWO
variable {D : va_G} {A : Nat → Prop} {Mx Mr M1 : hmp} {H H1 : Heap}
def dis (Mx Mr : hmp) : Prop := ∀ q e, Mr q = some e → Mx q = none
theorem HP.lt (h : HP D A Mr H) {q : Nat} {e : va_E} (hq : Mr q = some e) : q < H.size := by
  obtain ⟨w, hP, -, hW⟩ := h
  obtain ⟨k, hk⟩ := (hW q e).mp hq
  exact (hP k _ hk).lt
theorem HP.other (h : HP D A Mr H) (hd : dis Mx Mr) (hk : ∀ q : Nat, q < H.size → ¬ FA Mx H.size q → H1[q]? = H[q]?) : HP D A Mr H1 := by
  have hlt := fun q e (hq : Mr q = some e) => h.lt hq
  obtain ⟨w, hP, hD, hW⟩ := h
  refine ⟨w, hP.kept (fun k x hx => ?_), hD, hW⟩
  have hm : Mr x.1 = some x.2 := (hW x.1 x.2).mpr ⟨k, hx⟩
  have hl := hlt _ _ hm
  refine hk x.1 hl (fun w => ?_)
  rcases w with ⟨e, he⟩ | w
  · rw [hd _ _ hm] at he; cases he
  · exact absurd w (by omega)
theorem dis.next (hr : HP D A Mr H) (hd : dis Mx Mr) (h1 : HP D (FA Mx H.size) M1 H1) : dis M1 Mr := by
  intro q e hq
  cases h : M1 q with
  | none => rfl
  | some f =>
    exfalso
    obtain ⟨w, -, hD, hW⟩ := h1
    obtain ⟨k, hk⟩ := (hW q f).mp h
    rcases hD.2 k _ hk with ⟨g, hg⟩ | hg
    · have hg' : Mx q = some g := hg
      rw [hd q e hq] at hg'; cases hg'
    · have hg' : H.size ≤ q := hg
      exact absurd hg' (Nat.not_le.mpr (hr.lt hq))
theorem dis.symm (h : dis Mx Mr) : dis Mr Mx := by
  intro q e hq
  cases h2 : Mr q with
  | none => rfl
  | some f => rw [h q f h2] at hq; cases hq
end TWO
