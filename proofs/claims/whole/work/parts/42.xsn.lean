section XSN
variable {cT : Nat → ClassId} {fu fd : Nat → UInt64} {ad ad' : Nat → Nat → Nat} {M M1 : hmp} {z z' : SG}
theorem cg_00 (h0 : ad' 0 = ad 0) (h1 : z'.1 0 2 = z.1 0 2) (h2 : z'.2.2 1 = z.2.2 1) : cx cT fu fd ad' z' 0 0 = cx cT fu fd ad z 0 0 := by rw [cx_00, cx_00, h0, h1, h2]
theorem cg_01 (h0 : ad' 0 = ad 0) : cx cT fu fd ad' z' 0 1 = cx cT fu fd ad z 0 1 := by rw [cx_01, cx_01, h0]
theorem cg_02 : cx cT fu fd ad' z' 0 2 = cx cT fu fd ad z 0 2 := by rw [cx_02, cx_02]
theorem cg_03 : cx cT fu fd ad' z' 0 3 = cx cT fu fd ad z 0 3 := by rw [cx_03, cx_03]
theorem cg_04 (h : ∀ k, k < 6 → orf (ad' 1) (z'.1 2 k) = orf (ad 1) (z.1 2 k)) : cx cT fu fd ad' z' 0 4 = cx cT fu fd ad z 0 4 := by
  rw [cx_04, cx_04]; exact congrArg (fun g => (Sum.inl (cT 8, 6, rQ g) : va_E)) (tr_eq h)
theorem cg_05 (h : ∀ k, k < 6 → orf (ad' 1) (z'.1 2 (6 + k)) = orf (ad 1) (z.1 2 (6 + k))) : cx cT fu fd ad' z' 0 5 = cx cT fu fd ad z 0 5 := by
  rw [cx_05, cx_05]; exact congrArg (fun g => (Sum.inl (cT 8, 6, rQ g) : va_E)) (tr_eq h)
theorem cg_06 (h : ∀ k, k < 6 → orf (ad' 2) (z'.1 4 k) = orf (ad 2) (z.1 4 k)) : cx cT fu fd ad' z' 0 6 = cx cT fu fd ad z 0 6 := by
  rw [cx_06, cx_06]; exact congrArg (fun g => (Sum.inl (cT 5, 6, rQ g) : va_E)) (tr_eq h)
theorem cg_07 (h : ∀ k, k < 3 → (if z'.1 5 k < 0 then none else some (ad' 3 k)) = (if z.1 5 k < 0 then none else some (ad 3 k))) : cx cT fu fd ad' z' 0 7 = cx cT fu fd ad z 0 7 := by
  rw [cx_07, cx_07]; exact congrArg (fun g => (Sum.inl (cT 7, 3, rQ g) : va_E)) (tr_eq h)
theorem cg_08 (h : ∀ k, k < 4 → (if z'.1 7 k = 0 then none else some (ad' 5 k)) = (if z.1 7 k = 0 then none else some (ad 5 k))) : cx cT fu fd ad' z' 0 8 = cx cT fu fd ad z 0 8 := by
  rw [cx_08, cx_08]; exact congrArg (fun g => (Sum.inl (cT 6, 4, rQ g) : va_E)) (tr_eq h)
theorem cg_09 (h : ∀ k, k < 8 → z'.2.1 4 k = z.2.1 4 k) : cx cT fu fd ad' z' 0 9 = cx cT fu fd ad z 0 9 := by
  rw [cx_09, cx_09]; exact congrArg (fun g => (Sum.inl (cT 1, 8, rF g) : va_E)) (tr_eq (fun k hk => congrArg FP.d2f (h k hk)))
theorem cg_1 {i : Nat} (h1 : z'.1 1 i = z.1 1 i) (h2 : ∀ j, j < 16 → z'.2.1 0 (16 * i + j) = z.2.1 0 (16 * i + j)) : cx cT fu fd ad' z' 1 i = cx cT fu fd ad z 1 i := by
  rw [cx_1, cx_1, h1]; exact congrArg (fun g => (Sum.inl (cT 0, cl (z.1 1 i), rD g) : va_E)) (tr_eq h2)
theorem cg_2 {i : Nat} (h1 : z'.1 3 i = z.1 3 i) (h2 : z'.2.1 1 i = z.2.1 1 i) : cx cT fu fd ad' z' 2 i = cx cT fu fd ad z 2 i := by rw [cx_2, cx_2, h1, h2]
theorem cg_3 {i : Nat} (h1 : z'.1 5 i = z.1 5 i) (h2 : ad' 4 i = ad 4 i) : cx cT fu fd ad' z' 3 i = cx cT fu fd ad z 3 i := by rw [cx_3, cx_3, h1, h2]
theorem cg_4 {i : Nat} (h : ∀ j, j < 3 → orf (ad' 2) (z'.1 6 (3 * i + j)) = orf (ad 2) (z.1 6 (3 * i + j))) : cx cT fu fd ad' z' 4 i = cx cT fu fd ad z 4 i := by
  rw [cx_4, cx_4]; exact congrArg (fun g => (Sum.inl (cT 5, 3, rQ g) : va_E)) (tr_eq h)
theorem cg_5 {i : Nat} (h1 : z'.1 8 i = z.1 8 i) (h2 : z'.1 9 i = z.1 9 i) (h3 : z'.1 10 i = z.1 10 i) (h4 : z'.2.1 2 i = z.2.1 2 i) (h5 : z'.2.1 3 i = z.2.1 3 i) (h6 : z'.2.2 0 i = z.2.2 0 i) : cx cT fu fd ad' z' 5 i = cx cT fu fd ad z 5 i := by rw [cx_5, cx_5, h1, h2, h3, h4, h5, h6]
/-- all fixed cells but one -/
theorem cg_0 {i j : Nat} (hi : i < 10) (hij : ¬ i = j) (h0 : ad' 0 = ad 0) (h1 : z'.1 0 2 = z.1 0 2) (h2 : z'.2.2 1 = z.2.2 1) (h4 : j ≠ 4 → ∀ k, k < 6 → orf (ad' 1) (z'.1 2 k) = orf (ad 1) (z.1 2 k)) (h5 : j ≠ 5 → ∀ k, k < 6 → orf (ad' 1) (z'.1 2 (6 + k)) = orf (ad 1) (z.1 2 (6 + k))) (h6 : j ≠ 6 → ∀ k, k < 6 → orf (ad' 2) (z'.1 4 k) = orf (ad 2) (z.1 4 k)) (h7 : j ≠ 7 → ∀ k, k < 3 → (if z'.1 5 k < 0 then none else some (ad' 3 k)) = (if z.1 5 k < 0 then none else some (ad 3 k))) (h8 : j ≠ 8 → ∀ k, k < 4 → (if z'.1 7 k = 0 then none else some (ad' 5 k)) = (if z.1 7 k = 0 then none else some (ad 5 k))) (h9 : j ≠ 9 → ∀ k, k < 8 → z'.2.1 4 k = z.2.1 4 k) : cx cT fu fd ad' z' 0 i = cx cT fu fd ad z 0 i :=
  to10 (P := fun i => ¬ i = j → cx cT fu fd ad' z' 0 i = cx cT fu fd ad z 0 i) ⟨fun _ => cg_00 h0 h1 h2, fun _ => cg_01 h0, fun _ => cg_02, fun _ => cg_03, fun q => cg_04 (h4 (Ne.symm q)), fun q => cg_05 (h5 (Ne.symm q)), fun q => cg_06 (h6 (Ne.symm q)), fun q => cg_07 (h7 (Ne.symm q)), fun q => cg_08 (h8 (Ne.symm q)), fun q => cg_09 (h9 (Ne.symm q))⟩ i hi hij
theorem val_0 (z : SG) (i : Nat) : val z 0 i = (i < 10) := rfl
theorem val_1 (z : SG) (i : Nat) : val z 1 i = (i < cl (z.1 0 0)) := rfl
theorem val_2 (z : SG) (i : Nat) : val z 2 i = (i < cl (z.1 0 1)) := rfl
theorem val_3 (z : SG) (i : Nat) : val z 3 i = (i < 3 ∧ ¬ z.1 5 i < 0) := rfl
theorem val_4 (z : SG) (i : Nat) : val z 4 i = (i < 3 ∧ ¬ z.1 5 i < 0) := rfl
theorem val_5 (z : SG) (i : Nat) : val z 5 i = (i < 4 ∧ ¬ z.1 7 i = 0) := rfl
def upA (ad : Nat → Nat → Nat) (c i q : Nat) : Nat → Nat → Nat := va_up ad c (va_up (ad c) i q)
theorem upA_c (ad : Nat → Nat → Nat) {c i q c' : Nat} (h : c' ≠ c) : upA ad c i q c' = ad c' := va_up_ne _ _ h
theorem upA_s (ad : Nat → Nat → Nat) (c i q : Nat) : upA ad c i q c i = q := by unfold upA; rw [va_up_self, va_up_self]
theorem upA_n (ad : Nat → Nat → Nat) {c i q c' i' : Nat} (h : ¬ (c' = c ∧ i' = i)) : upA ad c i q c' i' = ad c' i' := by
  by_cases e : c' = c
  · unfold upA; rw [e, va_up_self, va_up_ne _ _ (fun w => h ⟨e, w⟩)]
  · rw [upA_c _ e]
theorem XS.put1 {c0 i0 q j : Nat} (hc0 : c0 ≠ 0) (h : XS cT fu fd ad M z) (hj : j < 10) (hne : ∀ c i, val z c i → ad c i ≠ q) (hv : ∀ c i, val z' c i → ¬ (c = c0 ∧ i = i0) → val z c i) (hM : M1 = va_up M (ad 0 j) (some (cx cT fu fd (upA ad c0 i0 q) z' 0 j))) (hF : M q = some (cx cT fu fd (upA ad c0 i0 q) z' c0 i0)) (hc : ∀ c i, val z c i → ¬ (c = c0 ∧ i = i0) → ¬ (c = 0 ∧ i = j) → cx cT fu fd (upA ad c0 i0 q) z' c i = cx cT fu fd ad z c i) : XS cT fu fd (upA ad c0 i0 q) M1 z' := by
  refine XS.put (fun c i => c = c0 ∧ i = i0) h hj (fun c i w f => ⟨hv c i w f, upA_n _ f⟩) ?_ ?_ (fun w => hc0 w.1.symm) hM ?_ (fun c i _ w f e => hc c i w f e)
  · rintro c i ⟨rfl, rfl⟩ c' i' w
    rw [upA_s]; exact hne c' i' w
  · rintro c i c' i' ⟨rfl, rfl⟩ ⟨rfl, rfl⟩ _
    exact ⟨rfl, rfl⟩
  · rintro c i ⟨rfl, rfl⟩
    rw [upA_s]; exact hF
theorem orf_old {f f' : Nat → Nat} {x : Int32} (h : ¬ x < 0 → f' (cl x) = f (cl x)) : orf f' x = orf f x := by
  unfold orf
  by_cases c : x < 0
  · rw [if_pos c, if_pos c]
  · rw [if_neg c, if_neg c, h c]
abbrev rowZ (z : SG) (cv k m : Int32) : SG := (rowI z cv k m, zeroF z.2.1 (cl (z.1 0 0)), z.2.2)
theorem XS.nRow {n q : Nat} {cv k m : Int32} (h : XS cT fu fd ad M z) (hI : INV n z) (hn : n < 512) (hk : inR k 6) (hne : ∀ c i, val z c i → ad c i ≠ q) (hq : M q = some (.inl (cT 0, cl m, rD (fun _ => 0)))) (hM : M1 = va_up M (ad 0 (rws cv)) (some (.inl (cT 8, 6, rQ (va_up (fun k => if k < 6 then orf (ad 1) (z.1 2 (if cv = 0 then k else 6 + k)) else none) (cl k) (some q)))))) : XS cT fu fd (upA ad 1 (cl (z.1 0 0)) q) M1 (rowZ z cv k m) := by
  have hs := (slot_lt (cv := cv) hk).2.2
  have hk6 := in_cl hk
  obtain ⟨r, hr1, hr2⟩ := hI.r0 (by omega)
  have hr : cl (z.1 0 0) = r := by rw [hr2]; exact cl_nI (by omega)
  have old : ∀ s, s < 12 → orf (upA ad 1 (cl (z.1 0 0)) q 1) (z.1 2 s) = orf (ad 1) (z.1 2 s) := fun s hs => orf_old (fun w => upA_n _ (fun e => by have := hI.slr (by omega) hs w; omega))
  have new : orf (upA ad 1 (cl (z.1 0 0)) q 1) (z.1 0 0) = some q := by
    unfold orf
    rw [if_neg (by rw [hr2]; exact nI_pos (by omega)), upA_s]
  have g2 : ∀ s, s < 12 → s ≠ slot cv k → orf (upA ad 1 (cl (z.1 0 0)) q 1) ((rowZ z cv k m).1 2 s) = orf (ad 1) (z.1 2 s) := fun s hs1 hs2 => by
    show orf _ (rowI z cv k m 2 s) = _
    rw [rowI_2, upI_n _ _ hs2]; exact old s hs1
  refine XS.put1 (by decide) h (show rws cv < 10 by unfold rws; split <;> decide) hne ?_ (hM.trans (congrArg (fun w => va_up M (ad 0 (rws cv)) (some w)) ?_)) (hq.trans (congrArg some ?_)) ?_
  · intro c i
    refine to6 (P := fun c => val (rowZ z cv k m) c i → ¬ (c = 1 ∧ i = cl (z.1 0 0)) → val z c i) ⟨?_, ?_, ?_, ?_, ?_, ?_⟩ (fun c q w => absurd w (val6 q)) c
    · rw [val_0, val_0]; exact fun w _ => w
    · rw [val_1, val_1]
      show i < cl (rowI z cv k m 0 0) → _
      rw [rowI_0, if_pos rfl, hr2, nI_1, cl_nI (by omega), cl_nI (by omega)]
      exact fun w f => by omega
    · rw [val_2, val_2]
      show i < cl (rowI z cv k m 0 1) → _
      rw [rowI_0, if_neg (by decide)]
      exact fun w _ => w
    · rw [val_3, val_3]
      show i < 3 ∧ ¬ rowI z cv k m 5 i < 0 → _
      rw [rowI_c z cv k m (c := 5) (by decide) (by decide) (by decide) (by decide)]
      exact fun w _ => w
    · rw [val_4, val_4]
      show i < 3 ∧ ¬ rowI z cv k m 5 i < 0 → _
      rw [rowI_c z cv k m (c := 5) (by decide) (by decide) (by decide) (by decide)]
      exact fun w _ => w
    · rw [val_5, val_5]
      show i < 4 ∧ ¬ rowI z cv k m 7 i = 0 → _
      rw [rowI_c z cv k m (c := 7) (by decide) (by decide) (by decide) (by decide)]
      exact fun w _ => w
  · by_cases c : cv = 0
    · simp only [rws, if_pos c]
      rw [if_pos c] at hs
      rw [cx_04]
      refine congrArg (fun g => (Sum.inl (cT 8, 6, rQ g) : va_E)) (tr_up hk6 ?_ (fun j hj hjk => g2 j (by omega) (by omega)))
      show orf _ (rowI z cv k m 2 (cl k)) = _
      rw [rowI_2, ← hs, upI_s]; exact new
    · simp only [rws, if_neg c]
      rw [if_neg c] at hs
      rw [cx_05]
      refine congrArg (fun g => (Sum.inl (cT 8, 6, rQ g) : va_E)) (tr_up hk6 ?_ (fun j hj hjk => g2 (6 + j) (by omega) (by omega)))
      show orf _ (rowI z cv k m 2 (6 + cl k)) = _
      rw [rowI_2, ← hs, upI_s]; exact new
  · rw [cx_1]
    show _ = (Sum.inl (cT 0, cl (rowI z cv k m 1 (cl (z.1 0 0))), rD (fun j => if j < 16 then zeroF z.2.1 (cl (z.1 0 0)) 0 (16 * cl (z.1 0 0) + j) else 0)) : va_E)
    rw [rowI_1, upI_s]
    refine congrArg (fun g => (Sum.inl (cT 0, cl m, rD g) : va_E)) ?_
    funext j
    by_cases c : j < 16
    · rw [if_pos c, zeroF_0, if_pos (by omega)]
    · rw [if_neg c]
  · intro c i
    refine to6 (P := fun c => val z c i → ¬ (c = 1 ∧ i = cl (z.1 0 0)) → ¬ (c = 0 ∧ i = rws cv) → cx cT fu fd (upA ad 1 (cl (z.1 0 0)) q) (rowZ z cv k m) c i = cx cT fu fd ad z c i) ⟨?_, ?_, ?_, ?_, ?_, ?_⟩ (fun c q w => absurd w (val6 q)) c
    · intro hi _ hij
      refine cg_0 (j := rws cv) hi (fun w => hij ⟨rfl, w⟩) (upA_c _ (by decide)) ?_ rfl (fun hj => ?_) (fun hj => ?_) (fun _ k2 hk2 => ?_) (fun _ k2 hk2 => ?_) (fun _ k2 hk2 => ?_) (fun _ k2 hk2 => ?_)
      · show rowI z cv k m 0 2 = _
        rw [rowI_0, if_neg (by decide)]
      · by_cases c : cv = 0
        · simp only [rws, if_pos c] at hj; exact absurd rfl hj
        · rw [if_neg c] at hs
          exact fun s hs1 => g2 s (by omega) (by omega)
      · by_cases c : cv = 0
        · rw [if_pos c] at hs
          exact fun s hs1 => g2 (6 + s) (by omega) (by omega)
        · simp only [rws, if_neg c] at hj; exact absurd rfl hj
      · show orf _ (rowI z cv k m 4 k2) = _
        rw [rowI_c z cv k m (c := 4) (by decide) (by decide) (by decide) (by decide), upA_c _ (by decide)]
      · show (if rowI z cv k m 5 k2 < 0 then none else some (upA ad 1 (cl (z.1 0 0)) q 3 k2)) = _
        rw [rowI_c z cv k m (c := 5) (by decide) (by decide) (by decide) (by decide), upA_c _ (by decide)]
      · show (if rowI z cv k m 7 k2 = 0 then none else some (upA ad 1 (cl (z.1 0 0)) q 5 k2)) = _
        rw [rowI_c z cv k m (c := 7) (by decide) (by decide) (by decide) (by decide), upA_c _ (by decide)]
      · show zeroF z.2.1 (cl (z.1 0 0)) 4 k2 = _
        rw [zeroF_c _ _ (by decide)]
    · intro hi hne2 _
      have hir : i ≠ cl (z.1 0 0) := fun w => hne2 ⟨rfl, w⟩
      refine cg_1 ?_ (fun j hj => ?_)
      · show rowI z cv k m 1 i = _
        rw [rowI_1, upI_n _ _ hir]
      · show zeroF z.2.1 (cl (z.1 0 0)) 0 (16 * i + j) = _
        rw [zeroF_0, if_neg (by omega)]
    · intro _ _ _
      refine cg_2 ?_ ?_
      · show rowI z cv k m 3 i = _
        rw [rowI_c z cv k m (c := 3) (by decide) (by decide) (by decide) (by decide)]
      · show zeroF z.2.1 (cl (z.1 0 0)) 1 i = _
        rw [zeroF_c _ _ (by decide)]
    · intro _ _ _
      refine cg_3 ?_ (by rw [upA_c _ (by decide)])
      show rowI z cv k m 5 i = _
      rw [rowI_c z cv k m (c := 5) (by decide) (by decide) (by decide) (by decide)]
    · intro _ _ _
      refine cg_4 (fun j hj => ?_)
      show orf _ (rowI z cv k m 6 (3 * i + j)) = _
      rw [rowI_c z cv k m (c := 6) (by decide) (by decide) (by decide) (by decide), upA_c _ (by decide)]
    · intro _ _ _
      refine cg_5 ?_ ?_ ?_ ?_ ?_ rfl
      · show rowI z cv k m 8 i = _
        rw [rowI_c z cv k m (c := 8) (by decide) (by decide) (by decide) (by decide)]
      · show rowI z cv k m 9 i = _
        rw [rowI_c z cv k m (c := 9) (by decide) (by decide) (by decide) (by decide)]
      · show rowI z cv k m 10 i = _
        rw [rowI_c z cv k m (c := 10) (by decide) (by decide) (by decide) (by decide)]
      · show zeroF z.2.1 (cl (z.1 0 0)) 2 i = _
        rw [zeroF_c _ _ (by decide)]
      · show zeroF z.2.1 (cl (z.1 0 0)) 3 i = _
        rw [zeroF_c _ _ (by decide)]
end XSN
