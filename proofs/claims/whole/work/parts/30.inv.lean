/-! every call keeps INV -/
theorem fin0 : fin64 0 := by decide
theorem flo0 : flo 0 := by decide
theorem INV.told {n : Nat} {z : SG} (x : Int64) (h : INV n z) : INV n (toldS z x) := h
theorem slot_kind {cv k : Int32} (h : inR k 6) : (slot cv k < 6 ↔ cv = 0) := by
  have h1 := (slot_lt (cv := cv) h).2.2
  have h2 := in_cl h
  by_cases c : cv = 0
  · rw [if_pos c] at h1; exact ⟨fun _ => c, fun _ => by omega⟩
  · rw [if_neg c] at h1; exact ⟨fun q => by omega, fun q => absurd q c⟩
def rowI (z : SG) (cv k m : Int32) : gI := upI (upI (upI (upI z.1 1 (cl (z.1 0 0)) m) 2 (slot cv k) (z.1 0 0)) 0 0 (z.1 0 0 + 1)) 11 (cl (z.1 0 0)) (if cv = 0 then 0 else 1)
theorem rowI_c (z : SG) (cv k m : Int32) {c : Nat} (h0 : c ≠ 0) (h1 : c ≠ 1) (h2 : c ≠ 2) (h3 : c ≠ 11) : rowI z cv k m c = z.1 c := by
  unfold rowI; rw [upI_c _ _ h3, upI_c _ _ h0, upI_c _ _ h2, upI_c _ _ h1]
theorem rowI_0 (z : SG) (cv k m : Int32) (j : Nat) : rowI z cv k m 0 j = if j = 0 then z.1 0 0 + 1 else z.1 0 j := by
  unfold rowI; rw [upI_c (c := 11) _ _ (by decide)]
  by_cases e : j = 0
  · rw [if_pos e, e, upI_s]
  · rw [if_neg e, upI_n _ _ e, upI_c _ _ (by decide), upI_c _ _ (by decide)]
theorem rowI_1 (z : SG) (cv k m : Int32) : rowI z cv k m 1 = upI z.1 1 (cl (z.1 0 0)) m 1 := by
  unfold rowI; rw [upI_c (c := 11) _ _ (by decide), upI_c (c := 0) _ _ (by decide), upI_c (c := 2) _ _ (by decide)]
theorem rowI_2 (z : SG) (cv k m : Int32) : rowI z cv k m 2 = upI z.1 2 (slot cv k) (z.1 0 0) 2 := by
  unfold rowI; rw [upI_c (c := 11) _ _ (by decide), upI_c (c := 0) _ _ (by decide)]
  funext j
  by_cases e : j = slot cv k
  · rw [e, upI_s, upI_s]
  · rw [upI_n _ _ e, upI_n _ _ e, upI_c _ _ (by decide)]
theorem rowI_11 (z : SG) (cv k m : Int32) : rowI z cv k m 11 = upI z.1 11 (cl (z.1 0 0)) (if cv = 0 then 0 else 1) 11 := by
  unfold rowI
  funext j
  by_cases e : j = cl (z.1 0 0)
  · rw [e, upI_s, upI_s]
  · rw [upI_n _ _ e, upI_n _ _ e, upI_c _ _ (by decide), upI_c _ _ (by decide), upI_c _ _ (by decide)]
theorem zeroF_c (F : gF) (r : Nat) {c : Nat} (h : c ≠ 0) : zeroF F r c = F c := by unfold zeroF va_up; rw [if_neg h]
theorem zeroF_0 (F : gF) (r j : Nat) : zeroF F r 0 j = if 16 * r ≤ j ∧ j < 16 * r + 16 then 0 else F 0 j := by unfold zeroF va_up; rw [if_pos rfl]
theorem INV.row {n : Nat} {z : SG} (cv k m : Int32) (h : INV n z) (hn : n < 512) : INV (n + 1) (sp_row z cv k m).2 := by
  unfold sp_row
  by_cases c : inR k 6 ∧ inR m 17
  · rw [if_pos c]
    obtain ⟨c1, c2⟩ := c
    obtain ⟨⟨r, h1, h2, h3, h4, h5, h6, h7⟩, ⟨e, h8, h9, h9a, h9b, h9c⟩, h10, h11, h12⟩ := h
    have hr : cl (z.1 0 0) = r := by rw [h2]; exact cl_nI (by omega)
    have hsk := slot_kind (cv := cv) c1
    show INV (n + 1) (rowI z cv k m, zeroF z.2.1 (cl (z.1 0 0)), z.2.2)
    unfold INV
    simp only [rowI_0, rowI_1, rowI_2, rowI_11, hr]
    rw [rowI_c (c := 4) z cv k m (by decide) (by decide) (by decide) (by decide), rowI_c (c := 6) z cv k m (by decide) (by decide) (by decide) (by decide), rowI_c (c := 7) z cv k m (by decide) (by decide) (by decide) (by decide), rowI_c (c := 8) z cv k m (by decide) (by decide) (by decide) (by decide), rowI_c (c := 9) z cv k m (by decide) (by decide) (by decide) (by decide), rowI_c (c := 10) z cv k m (by decide) (by decide) (by decide) (by decide), zeroF_c (c := 1) _ _ (by decide), zeroF_c (c := 2) _ _ (by decide), zeroF_c (c := 3) _ _ (by decide), zeroF_c (c := 4) _ _ (by decide), if_pos trivial, if_neg (show ¬ 1 = 0 by decide)]
    refine ⟨⟨r + 1, by omega, by rw [h2]; exact nI_1 r, ?_, ?_, ?_, ?_, ?_⟩, ⟨e, by omega, h9, h9a, h9b, h9c⟩, h10, fun i hi => ⟨(h11 i hi).1, by obtain ⟨q, hq, e⟩ := (h11 i hi).2; exact ⟨q, by omega, e⟩⟩, h12⟩
    · intro q hq
      by_cases e : q = r
      · rw [e, upI_s]; exact c2
      · rw [upI_n _ _ e]; exact h3 q (by omega)
    · intro q hq
      by_cases e : q = slot cv k
      · rw [e, upI_s, hr]; exact Or.inr (by omega)
      · rw [upI_n _ _ e]
        rcases h4 q hq with w | w
        · exact Or.inl w
        · exact Or.inr (by omega)
    · intro q j hq hj
      rw [zeroF_0]
      by_cases e : q = r
      · rw [if_pos (by omega)]; exact ⟨fin0, fun _ => flo0⟩
      · rw [if_neg (by omega), upI_n _ _ e]; exact h5 q j (by omega) hj
    · intro q hq
      by_cases e : q = slot cv k
      · rw [e, upI_s, hr, upI_s]
        intro _
        exact if_pos (hsk.mp (by omega))
      · rw [upI_n (c := 2) _ _ e]
        intro w
        have := (h4 q (by omega)).resolve_left w
        rw [upI_n _ _ (by omega)]; exact h6 q hq w
    · intro q hq
      by_cases e : 6 + q = slot cv k
      · rw [e, upI_s, hr, upI_s]
        intro _
        exact if_neg (fun w => by have := hsk.mpr w; omega)
      · rw [upI_n (c := 2) _ _ e]
        intro w
        have := (h4 (6 + q) (by omega)).resolve_left w
        rw [upI_n _ _ (by omega)]; exact h7 q hq w
  · rw [if_neg c]; exact h.mono (Nat.le_succ n)
/-- a slot gets another row of its own kind, or none -/
theorem inv_slot {n : Nat} {z : SG} {t : Nat} {x : Int32} (h : INV n z) (hx : x < 0 ∨ ∃ f, f < 12 ∧ (f < 6 ↔ t < 6) ∧ x = z.1 2 f) : INV n (upI z.1 2 t x, z.2) := by
  obtain ⟨⟨r, h1, h2, h3, h4, h5, h6, h7⟩, h8⟩ := h
  refine ⟨⟨r, h1, h2, h3, ?_, h5, ?_, ?_⟩, h8⟩
  · intro q hq
    show upI z.1 2 t x 2 q < 0 ∨ cl (upI z.1 2 t x 2 q) < r
    by_cases e : q = t
    · rw [e, upI_s]
      rcases hx with w | ⟨f, hf, -, rfl⟩
      · exact Or.inl w
      · exact h4 f hf
    · rw [upI_n _ _ e]; exact h4 q hq
  · intro q hq
    show ¬ upI z.1 2 t x 2 q < 0 → z.1 11 (cl (upI z.1 2 t x 2 q)) = 0
    by_cases e : q = t
    · rw [e, upI_s]
      rcases hx with w | ⟨f, hf, hk, rfl⟩
      · exact fun u => absurd w u
      · exact h6 f (hk.mpr (by omega))
    · rw [upI_n _ _ e]; exact h6 q hq
  · intro q hq
    show ¬ upI z.1 2 t x 2 (6 + q) < 0 → z.1 11 (cl (upI z.1 2 t x 2 (6 + q))) = 1
    by_cases e : 6 + q = t
    · rw [e, upI_s]
      rcases hx with w | ⟨f, hf, hk, rfl⟩
      · exact fun u => absurd w u
      · have hf6 : 6 ≤ f := Nat.not_lt.mp (fun u => by have := hk.mp u; omega)
        have := h7 (f - 6) (by omega)
        rw [show 6 + (f - 6) = f by omega] at this
        exact this
    · rw [upI_n _ _ e]; exact h7 q hq
theorem INV.share {n : Nat} {z : SG} (cv f t : Int32) (h : INV n z) : INV (n + 1) (sp_share z cv f t).2 := by
  unfold sp_share
  by_cases c : inR f 6 ∧ inR t 6
  · rw [if_pos c]
    refine INV.mono (n := n) (inv_slot h (Or.inr ⟨slot cv f, (slot_lt c.1).2.1, ?_, rfl⟩)) (Nat.le_succ n)
    rw [slot_kind c.1, slot_kind c.2]
  · rw [if_neg c]; exact h.mono (Nat.le_succ n)
theorem INV.drop {n : Nat} {z : SG} (cv k : Int32) (h : INV n z) : INV (n + 1) (sp_drop z cv k).2 := by
  unfold sp_drop
  by_cases c : inR k 6
  · rw [if_pos c]
    exact INV.mono (n := n) (inv_slot h (Or.inl (by decide))) (Nat.le_succ n)
  · rw [if_neg c]; exact h.mono (Nat.le_succ n)
/-- an item of a row gets another number -/
theorem INV.item {n : Nat} {z : SG} {r0 j0 : Nat} {x : UInt64} (h : INV n z) (hj : j0 < 16) (hx : fin64 x) (hf : z.1 11 r0 = 0 → flo x) : INV n (z.1, upF z.2.1 0 (16 * r0 + j0) x, z.2.2) := by
  obtain ⟨⟨r, h1, h2, h3, h4, h5, h6, h7⟩, h8⟩ := h
  refine ⟨⟨r, h1, h2, h3, h4, ?_, h6, h7⟩, h8⟩
  intro q j hq hj
  show fin64 (upF z.2.1 0 (16 * r0 + j0) x 0 (16 * q + j)) ∧ (z.1 11 q = 0 → flo (upF z.2.1 0 (16 * r0 + j0) x 0 (16 * q + j)))
  by_cases e : 16 * q + j = 16 * r0 + j0
  · have e2 : q = r0 := by omega
    rw [e, upF_s, e2]; exact ⟨hx, hf⟩
  · rw [upF_n _ _ e]; exact h5 q j hq hj
theorem INV.set {n : Nat} {z : SG} (cv k i : Int32) (b : Int64) (h : INV n z) (hn : n < 512) : INV (n + 1) (sp_set z cv k i b).2 := by
  unfold sp_set
  by_cases c : inR k 6 ∧ okB cv b
  · rw [if_pos c]
    by_cases c2 : ask z cv k i = 0
    · rw [if_pos c2]
      have ha := ask_0 c2
      have hix := itm_ix h (by omega) c.1 c2
      refine INV.mono (n := n) (INV.item h hix.2.2 ?_ ?_) (Nat.le_succ n)
      · have := c.2
        unfold numB
        by_cases cc : cv = 0
        · rw [if_pos cc]; unfold okB at this; rw [if_pos cc] at this; exact fin_f2d this
        · rw [if_neg cc]; unfold okB at this; rw [if_neg cc] at this; exact this
      · intro hg
        have := c.2
        unfold numB
        by_cases cc : cv = 0
        · rw [if_pos cc]; unfold okB at this; rw [if_pos cc] at this; exact f2d_flo this
        · exfalso
          obtain ⟨⟨r, h1, h2, h3, h4, h5, h6, h7⟩, h8⟩ := h
          have hsl := (slot_lt (cv := cv) c.1).2.2
          rw [if_neg cc] at hsl
          have h9 := h7 (cl k) (in_cl c.1) (by rw [← hsl]; exact ha.1)
          rw [← hsl, hg] at h9
          exact absurd h9 (by decide)
    · rw [if_neg c2]; exact h.mono (Nat.le_succ n)
  · rw [if_neg c]; exact h.mono (Nat.le_succ n)
theorem INV.get {n : Nat} {z : SG} (cv k i : Int32) (h : INV n z) : INV (n + 1) (sp_get z cv k i).2 := by
  unfold sp_get
  by_cases c : inR k 6
  · rw [if_pos c]
    by_cases c2 : ask z cv k i = 0
    · rw [if_pos c2]; exact h.mono (Nat.le_succ n)
    · rw [if_neg c2]; exact h.mono (Nat.le_succ n)
  · rw [if_neg c]; exact h.mono (Nat.le_succ n)
theorem drem_flo {x y : UInt64} (hx : fin64 x) (hy : fin64 y) (h0 : 0 < zmg y) (hf : flo x) : flo (FP.drem x y) := by
  obtain ⟨f1, f2, f3⟩ := drem_facts hx hy h0
  have : zmg (FP.drem x y) ≤ zmg x := by rw [f3]; exact Nat.mod_le _ _
  have := FP.Core.unitsOf_le_iff.mp this
  exact Nat.le_trans this hf
theorem INV.wrap {n : Nat} {z : SG} (cv k i j : Int32) (h : INV n z) (hn : n < 512) : INV (n + 1) (sp_wrap z cv k i j).2 := by
  unfold sp_wrap
  by_cases c : inR k 6
  · rw [if_pos c]
    by_cases c2 : ask z cv k i = 0 ∧ ask z cv k j = 0
    · rw [if_pos c2]
      by_cases c3 : dEq (z.2.1 0 (itm z cv k j)) FP.dconst0
      · rw [if_pos c3]; exact h.mono (Nat.le_succ n)
      · rw [if_neg c3]
        have ha := ask_0 c2.1
        have hix := itm_ix h (by omega) c c2.1
        have hjx := itm_ix h (by omega) c c2.2
        have hsl := slot_lt (cv := cv) c
        have fx := h.it (k := slot cv k) (j := cl i) hsl.2.1 ha.1 hix.2.2
        have fy := h.it (k := slot cv k) (j := cl j) hsl.2.1 ha.1 hjx.2.2
        have y0 : 0 < zmg (z.2.1 0 (itm z cv k j)) := Nat.pos_of_ne_zero (fun q => c3 ((eq0_iff fy).mpr q))
        refine INV.mono (n := n) (INV.item h hix.2.2 (drem_facts fx fy y0).1 ?_) (Nat.le_succ n)
        intro hg
        refine drem_flo fx fy y0 ?_
        obtain ⟨⟨r, h1, h2, h3, h4, h5, h6, h7⟩, h8⟩ := h
        exact (h5 _ _ ((h4 _ hsl.2.1).resolve_left ha.1) hix.2.2).2 hg
    · rw [if_neg c2]; exact h.mono (Nat.le_succ n)
  · rw [if_neg c]; exact h.mono (Nat.le_succ n)
theorem INV.effect {n : Nat} {z : SG} (k kd : Int32) (b : Int64) (h : INV n z) (hn : n < 512) : INV (n + 1) (sp_effect z k kd b).2 := by
  unfold sp_effect
  by_cases c : inR k 6 ∧ inR kd 3 ∧ fin64 b.toUInt64 ∧ rng b.toUInt64 13920209183539462144 4696837146684686336
  · rw [if_pos c]
    obtain ⟨⟨r, h1, h2⟩, ⟨m, h8, h9, h10, h11, h12⟩, h13, h14, h15⟩ := h
    have hm : cl (z.1 0 1) = m := by rw [h9]; exact cl_nI (by omega)
    refine ⟨⟨r, by omega, h2⟩, ⟨m + 1, by omega, ?_, ?_, ?_, ?_⟩, h13, fun i hi => ⟨(h14 i hi).1, by obtain ⟨q, hq, e⟩ := (h14 i hi).2; exact ⟨q, by omega, e⟩⟩, h15⟩
    · show z.1 0 1 + 1 = _
      rw [h9]; exact nI_1 m
    · intro q hq
      show fin64 (upF z.2.1 1 (cl (z.1 0 1)) b.toUInt64 1 q) ∧ rng (upF z.2.1 1 (cl (z.1 0 1)) b.toUInt64 1 q) _ _
      rw [hm]
      by_cases e : q = m
      · rw [e, upF_s]; exact c.2.2
      · rw [upF_n _ _ e]; exact h10 q (by omega)
    · intro q hq
      show upI z.1 4 (cl k) (z.1 0 1) 4 q < 0 ∨ cl (upI z.1 4 (cl k) (z.1 0 1) 4 q) < m + 1
      by_cases e : q = cl k
      · rw [e, upI_s, hm]; exact Or.inr (by omega)
      · rw [upI_n _ _ e]
        rcases h11 q hq with w | w
        · exact Or.inl w
        · exact Or.inr (by omega)
    · intro q hq
      rcases h12 q hq with w | w
      · exact Or.inl w
      · exact Or.inr (Nat.lt_succ_of_lt w)
  · rw [if_neg c]; exact h.mono (Nat.le_succ n)
theorem INV.make {n : Nat} {z : SG} (k : Int32) (b : Int64) (h : INV n z) : INV (n + 1) (sp_make z k b).2 := by
  unfold sp_make
  by_cases c : inR k 6 ∧ fin32 (lo32 b)
  · rw [if_pos c]
    by_cases c2 : z.1 4 (cl k) < 0
    · rw [if_pos c2]; exact h.mono (Nat.le_succ n)
    · rw [if_neg c2]; exact h.mono (Nat.le_succ n)
  · rw [if_neg c]; exact h.mono (Nat.le_succ n)
theorem INV.hook {n : Nat} {z : SG} {t : Nat} {x : Int32} (h : INV n z) (hx : x < 0 ∨ (∃ k, k < 6 ∧ x = z.1 4 k)) : INV n (upI z.1 6 t x, z.2) := by
  obtain ⟨h0, ⟨m, h8, h9, h10, h11, h12⟩, h13⟩ := h
  refine ⟨h0, ⟨m, h8, h9, h10, h11, ?_⟩, h13⟩
  intro q hq
  show upI z.1 6 t x 6 q < 0 ∨ cl (upI z.1 6 t x 6 q) < m
  by_cases e : q = t
  · rw [e, upI_s]
    rcases hx with w | ⟨k, hk, rfl⟩
    · exact Or.inl w
    · exact h11 k hk
  · rw [upI_n _ _ e]; exact h12 q hq
theorem INV.eff {n : Nat} {z : SG} {t f : Nat} (h : INV n z) (hf : f < 9) : INV n (upI z.1 4 t (z.1 6 f), z.2) := by
  obtain ⟨h0, ⟨m, h8, h9, h10, h11, h12⟩, h13⟩ := h
  refine ⟨h0, ⟨m, h8, h9, h10, ?_, h12⟩, h13⟩
  intro q hq
  show upI z.1 4 t (z.1 6 f) 4 q < 0 ∨ cl (upI z.1 4 t (z.1 6 f) 4 q) < m
  by_cases e : q = t
  · rw [e, upI_s]; exact h12 f hf
  · rw [upI_n _ _ e]; exact h11 q hq
theorem INV.rack {n : Nat} {z : SG} (r kd : Int32) (h : INV n z) : INV (n + 1) (sp_rack z r kd).2 := by
  unfold sp_rack
  by_cases c : inR r 3 ∧ inR kd 3
  · rw [if_pos c]
    have h1 : INV n (upI z.1 5 (cl r) kd, z.2) := h
    exact INV.mono (n := n) (INV.hook (z := (upI (upI (upI z.1 5 (cl r) kd) 6 (3 * cl r) (-1)) 6 (3 * cl r + 1) (-1), z.2)) (INV.hook (z := (upI (upI z.1 5 (cl r) kd) 6 (3 * cl r) (-1), z.2)) (INV.hook (z := (upI z.1 5 (cl r) kd, z.2)) h1 (Or.inl (by decide))) (Or.inl (by decide))) (Or.inl (by decide))) (Nat.le_succ n)
  · rw [if_neg c]; exact h.mono (Nat.le_succ n)
theorem INV.hang {n : Nat} {z : SG} (r i k : Int32) (h : INV n z) : INV (n + 1) (sp_hang z r i k).2 := by
  have hm := h.mono (Nat.le_succ n)
  unfold sp_hang
  by_cases c : inR r 3 ∧ inR k 6
  · rw [if_pos c]
    by_cases c2 : z.1 5 (cl r) < 0
    · rw [if_pos c2]; exact hm
    rw [if_neg c2]
    by_cases c3 : inR i 3
    · rw [if_pos c3]
      by_cases c4 : ¬ z.1 4 (cl k) < 0 ∧ ¬ fitsP (z.1 3 (cl (z.1 4 (cl k)))) (z.1 5 (cl r))
      · rw [if_pos c4]; exact hm
      · rw [if_neg c4]; exact INV.hook hm (Or.inr ⟨cl k, in_cl c.2, rfl⟩)
    · rw [if_neg c3]; exact hm
  · rw [if_neg c]; exact hm
theorem INV.take {n : Nat} {z : SG} (r i kd k : Int32) (h : INV n z) : INV (n + 1) (sp_take z r i kd k).2 := by
  have hm := h.mono (Nat.le_succ n)
  unfold sp_take
  by_cases c : inR r 3 ∧ inR kd 3 ∧ inR k 6
  · rw [if_pos c]
    by_cases c2 : z.1 5 (cl r) < 0
    · rw [if_pos c2]; exact hm
    rw [if_neg c2]
    by_cases c3 : inR i 3
    · rw [if_pos c3]
      by_cases c4 : ¬ z.1 6 (3 * cl r + cl i) < 0 ∧ ¬ fitsP (z.1 3 (cl (z.1 6 (3 * cl r + cl i)))) kd
      · rw [if_pos c4]; exact hm
      · rw [if_neg c4]
        refine INV.eff hm ?_
        have := in_cl c.1; have := in_cl c3; omega
    · rw [if_neg c3]; exact hm
  · rw [if_neg c]; exact hm
theorem INV.head {n : Nat} {z : SG} (h t c r : Int32) (b : Int64) (hI : INV n z) : INV (n + 1) (sp_head z h t c r b).2 := by
  have hm := hI.mono (Nat.le_succ n)
  unfold sp_head
  by_cases q : inR h 4 ∧ inR t 6 ∧ (c = -1 ∨ inR c 6) ∧ (r = -1 ∨ inR r 3) ∧ fin64 b.toUInt64 ∧ rng b.toUInt64 13857576053419016192 4634204016564240384
  · rw [if_pos q]
    obtain ⟨h1, h2, h3, h4, h5⟩ := hm
    refine ⟨h1, h2, ?_, ?_, h5⟩
    · intro i hi
      show ¬ upI z.1 7 (cl h) 1 7 i = 0 → inR (upI z.1 8 (cl h) t 8 i) 6 ∧ (upI z.1 9 (cl h) c 9 i = -1 ∨ inR (upI z.1 9 (cl h) c 9 i) 6) ∧ (upI z.1 10 (cl h) r 10 i = -1 ∨ inR (upI z.1 10 (cl h) r 10 i) 3) ∧ fin64 (upF z.2.1 2 (cl h) b.toUInt64 2 i) ∧ rng (upF z.2.1 2 (cl h) b.toUInt64 2 i) _ _
      by_cases e : i = cl h
      · rw [e, upI_s, upI_s, upI_s, upF_s, upI_s]
        exact fun _ => q.2
      · rw [upI_n _ _ e, upI_n _ _ e, upI_n _ _ e, upI_n _ _ e, upF_n _ _ e]
        exact h3 i hi
    · intro i hi
      show (upF z.2.1 3 (cl h) 0 3 i).toNat % _ < _ ∧ ∃ k, k ≤ _ ∧ upL z.2.2 0 (cl h) 0 0 i = lN k
      by_cases e : i = cl h
      · rw [e, upF_s, upL_s]
        exact ⟨by decide, 0, Nat.zero_le _, rfl⟩
      · rw [upF_n _ _ e, upL_n _ _ e]; exact h4 i hi
  · rw [if_neg q]; exact hm
theorem plz_INV {n h : Nat} (hn : n ≤ 512) (hh : h < 4) : ∀ (k b : Nat) (z : SG), INV n z → SB b z → b + k ≤ 64 * n → ¬ z.1 7 h = 0 → INV n (plz h k z).2.2
  | 0, b, z, hI, _, _, _ => hI
  | k + 1, b, z, hI, hB, hb, hset => by
    by_cases hs : stW z h = 0
    · rw [plz_ok hs]
      have hS := inv_stS hI hB (by omega) hn hh hset hs
      exact plz_INV hn hh k (b + 1) (stS z h) hS.1 hS.2 (by omega) hset
    · rw [plz_no hs]; exact hI
theorem INV.play {n : Nat} {z : SG} (h m : Int32) (hI : INV n z) (hn : n < 512) : INV (n + 1) (sp_play z h m).2 := by
  have hm := hI.mono (Nat.le_succ n)
  unfold sp_play
  by_cases c : inR h 4 ∧ ¬ z.1 7 (cl h) = 0 ∧ inR m 65
  · rw [if_pos c]
    have := in_cl c.2.2
    exact INV.fail _ (plz_INV (by omega) (in_cl c.1) (cl m) (64 * n) (failS z 0) (hm.fail 0) hI.sb (by omega) c.2.1)
  · rw [if_neg c]; exact hm
theorem INV.mix {n : Nat} {z : SG} (i how : Int32) (h : INV n z) : INV (n + 1) (sp_mix z i how).2 := by
  unfold sp_mix
  by_cases c : inR i 8 ∧ inR how 4
  · rw [if_pos c]; exact h.mono (Nat.le_succ n)
  · rw [if_neg c]; exact h.mono (Nat.le_succ n)
theorem INV.hush {n : Nat} {z : SG} (h : INV n z) : INV (n + 1) (sp_hush z).2 := by
  obtain ⟨h1, h2, h3, h4, h5⟩ := h.mono (Nat.le_succ n)
  refine ⟨h1, h2, h3, h4, fun i hi => ⟨0, by decide, ?_⟩⟩
  show (if i < 8 then 0 else z.2.1 4 i) = _
  rw [if_pos hi]; decide
theorem INV.at_ {n : Nat} {z : SG} (hh w : Int32) (h : INV n z) : INV (n + 1) (sp_at z hh w).2 := by
  unfold sp_at
  by_cases c : inR hh 4 ∧ ¬ z.1 7 (cl hh) = 0 ∧ inR w 2
  · rw [if_pos c]; exact h.mono (Nat.le_succ n)
  · rw [if_neg c]; exact h.mono (Nat.le_succ n)
theorem INV.clock {n : Nat} {z : SG} (x : Int64) (how : Int32) (h : INV n z) : INV (n + 1) (sp_clock z x how).2 := by
  unfold sp_clock
  by_cases c : inR how 6
  · rw [if_pos c]; exact h.mono (Nat.le_succ n)
  · rw [if_neg c]; exact h.mono (Nat.le_succ n)
theorem INV.init : INV 0 z0 := by
  refine ⟨⟨0, Nat.le_refl _, rfl, fun k hk => absurd hk (Nat.not_lt_zero k), ?_, fun k j hk => absurd hk (Nat.not_lt_zero k), ?_, ?_⟩, ⟨0, Nat.le_refl _, rfl, fun k hk => absurd hk (Nat.not_lt_zero k), ?_, ?_⟩, ?_, ?_, ?_⟩
  · have : ∀ k, k < 12 → z0.1 2 k < 0 := by decide +kernel
    exact fun k hk => Or.inl (this k hk)
  · have : ∀ k, k < 6 → z0.1 2 k < 0 := by decide +kernel
    exact fun k hk w => absurd (this k hk) w
  · have : ∀ k, k < 6 → z0.1 2 (6 + k) < 0 := by decide +kernel
    exact fun k hk w => absurd (this k hk) w
  · have : ∀ k, k < 6 → z0.1 4 k < 0 := by decide +kernel
    exact fun k hk => Or.inl (this k hk)
  · have : ∀ k, k < 9 → z0.1 6 k < 0 := by decide +kernel
    exact fun k hk => Or.inl (this k hk)
  · exact fun h _ w => absurd rfl w
  · exact fun h _ => ⟨by show (0 : UInt64).toNat % _ < _; decide, 0, Nat.le_refl _, rfl⟩
  · exact fun i _ => ⟨0, by decide, by show (0 : UInt64) = _; decide⟩
