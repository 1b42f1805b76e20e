section XSM
variable {cT : Nat → ClassId} {fu fd : Nat → UInt64} {ad ad' : Nat → Nat → Nat} {M M1 : hmp} {z z' : SG}
def effI (z : SG) (k kd : Int32) : gI := upI (upI (upI z.1 3 (cl (z.1 0 1)) kd) 4 (cl k) (z.1 0 1)) 0 1 (z.1 0 1 + 1)
theorem effI_c (z : SG) (k kd : Int32) {c : Nat} (h0 : c ≠ 0) (h3 : c ≠ 3) (h4 : c ≠ 4) : effI z k kd c = z.1 c := by
  unfold effI; rw [upI_c _ _ h0, upI_c _ _ h4, upI_c _ _ h3]
theorem effI_0 (z : SG) (k kd : Int32) (j : Nat) : effI z k kd 0 j = if j = 1 then z.1 0 1 + 1 else z.1 0 j := by
  unfold effI
  by_cases e : j = 1
  · rw [if_pos e, e, upI_s]
  · rw [if_neg e, upI_n _ _ e, upI_c _ _ (by decide), upI_c _ _ (by decide)]
theorem effI_3 (z : SG) (k kd : Int32) : effI z k kd 3 = upI z.1 3 (cl (z.1 0 1)) kd 3 := by
  unfold effI; rw [upI_c (c := 0) _ _ (by decide), upI_c (c := 4) _ _ (by decide)]
theorem effI_4 (z : SG) (k kd : Int32) : effI z k kd 4 = upI z.1 4 (cl k) (z.1 0 1) 4 := by
  unfold effI
  rw [upI_c (c := 0) _ _ (by decide)]
  funext j
  by_cases e : j = cl k
  · rw [e, upI_s, upI_s]
  · rw [upI_n _ _ e, upI_n _ _ e, upI_c _ _ (by decide)]
abbrev effZ (z : SG) (k kd : Int32) (x : UInt64) : SG := (effI z k kd, upF z.2.1 1 (cl (z.1 0 1)) x, z.2.2)
theorem XS.nEff {n q : Nat} {k kd : Int32} {x : UInt64} (h : XS cT fu fd ad M z) (hI : INV n z) (hn : n < 512) (hk : inR k 6) (hne : ∀ c i, val z c i → ad c i ≠ q) (hq : M q = some (.inr (0, [.int kd, .double x]))) (hM : M1 = va_up M (ad 0 6) (some (.inl (cT 5, 6, rQ (va_up (fun k => if k < 6 then orf (ad 2) (z.1 4 k) else none) (cl k) (some q)))))) : XS cT fu fd (upA ad 2 (cl (z.1 0 1)) q) M1 (effZ z k kd x) := by
  have hk6 := in_cl hk
  obtain ⟨r, hr1, hr2⟩ := hI.m0 (by omega)
  have hr : cl (z.1 0 1) = r := by rw [hr2]; exact cl_nI (by omega)
  have old4 : ∀ s, s < 6 → orf (upA ad 2 (cl (z.1 0 1)) q 2) (z.1 4 s) = orf (ad 2) (z.1 4 s) := fun s hs => orf_old (fun w => upA_n _ (fun e => by have := hI.efr (by omega) hs w; omega))
  have old6 : ∀ s, s < 9 → orf (upA ad 2 (cl (z.1 0 1)) q 2) (z.1 6 s) = orf (ad 2) (z.1 6 s) := fun s hs => orf_old (fun w => upA_n _ (fun e => by have := hI.hkr (by omega) hs w; omega))
  have new : orf (upA ad 2 (cl (z.1 0 1)) q 2) (z.1 0 1) = some q := by
    unfold orf
    rw [if_neg (by rw [hr2]; exact nI_pos (by omega)), upA_s]
  refine XS.put1 (by decide) h (show 6 < 10 by decide) hne ?_ (hM.trans (congrArg (fun w => va_up M (ad 0 6) (some w)) ?_)) (hq.trans (congrArg some ?_)) ?_
  · intro c i
    refine to6 (P := fun c => val (effZ z k kd x) c i → ¬ (c = 2 ∧ i = cl (z.1 0 1)) → val z c i) ⟨?_, ?_, ?_, ?_, ?_, ?_⟩ (fun c q w => absurd w (val6 q)) c
    · rw [val_0, val_0]; exact fun w _ => w
    · rw [val_1, val_1]
      show i < cl (effI z k kd 0 0) → _
      rw [effI_0, if_neg (by decide)]
      exact fun w _ => w
    · rw [val_2, val_2]
      show i < cl (effI z k kd 0 1) → _
      rw [effI_0, if_pos rfl, hr2, nI_1, cl_nI (by omega), cl_nI (by omega)]
      exact fun w f => by omega
    · rw [val_3, val_3]
      show i < 3 ∧ ¬ effI z k kd 5 i < 0 → _
      rw [effI_c z k kd (c := 5) (by decide) (by decide) (by decide)]
      exact fun w _ => w
    · rw [val_4, val_4]
      show i < 3 ∧ ¬ effI z k kd 5 i < 0 → _
      rw [effI_c z k kd (c := 5) (by decide) (by decide) (by decide)]
      exact fun w _ => w
    · rw [val_5, val_5]
      show i < 4 ∧ ¬ effI z k kd 7 i = 0 → _
      rw [effI_c z k kd (c := 7) (by decide) (by decide) (by decide)]
      exact fun w _ => w
  · rw [cx_06]
    refine congrArg (fun g => (Sum.inl (cT 5, 6, rQ g) : va_E)) (tr_up hk6 ?_ (fun j hj hjk => ?_))
    · show orf _ (effI z k kd 4 (cl k)) = _
      rw [effI_4, upI_s]; exact new
    · show orf _ (effI z k kd 4 j) = _
      rw [effI_4, upI_n _ _ hjk]; exact old4 j hj
  · rw [cx_2]
    show _ = (Sum.inr (0, [.int (effI z k kd 3 (cl (z.1 0 1))), .double (upF z.2.1 1 (cl (z.1 0 1)) x 1 (cl (z.1 0 1)))]) : va_E)
    rw [effI_3, upI_s, upF_s]
  · intro c i
    refine to6 (P := fun c => val z c i → ¬ (c = 2 ∧ i = cl (z.1 0 1)) → ¬ (c = 0 ∧ i = 6) → cx cT fu fd (upA ad 2 (cl (z.1 0 1)) q) (effZ z k kd x) c i = cx cT fu fd ad z c i) ⟨?_, ?_, ?_, ?_, ?_, ?_⟩ (fun c q w => absurd w (val6 q)) c
    · intro hi _ hij
      refine cg_0 (j := 6) hi (fun w => hij ⟨rfl, w⟩) (upA_c _ (by decide)) ?_ rfl (fun _ k2 hk2 => ?_) (fun _ k2 hk2 => ?_) (fun w => absurd rfl w) (fun _ k2 hk2 => ?_) (fun _ k2 hk2 => ?_) (fun _ k2 hk2 => ?_)
      · show effI z k kd 0 2 = _
        rw [effI_0, if_neg (by decide)]
      · show orf _ (effI z k kd 2 k2) = _
        rw [effI_c z k kd (c := 2) (by decide) (by decide) (by decide), upA_c _ (by decide)]
      · show orf _ (effI z k kd 2 (6 + k2)) = _
        rw [effI_c z k kd (c := 2) (by decide) (by decide) (by decide), upA_c _ (by decide)]
      · show (if effI z k kd 5 k2 < 0 then none else some (upA ad 2 (cl (z.1 0 1)) q 3 k2)) = _
        rw [effI_c z k kd (c := 5) (by decide) (by decide) (by decide), upA_c _ (by decide)]
      · show (if effI z k kd 7 k2 = 0 then none else some (upA ad 2 (cl (z.1 0 1)) q 5 k2)) = _
        rw [effI_c z k kd (c := 7) (by decide) (by decide) (by decide), upA_c _ (by decide)]
      · show upF z.2.1 1 (cl (z.1 0 1)) x 4 k2 = _
        rw [upF_c _ _ (by decide)]
    · intro _ _ _
      refine cg_1 ?_ (fun j hj => ?_)
      · show effI z k kd 1 i = _
        rw [effI_c z k kd (c := 1) (by decide) (by decide) (by decide)]
      · show upF z.2.1 1 (cl (z.1 0 1)) x 0 (16 * i + j) = _
        rw [upF_c _ _ (by decide)]
    · intro hi hne2 _
      have hir : i ≠ cl (z.1 0 1) := fun w => hne2 ⟨rfl, w⟩
      refine cg_2 ?_ ?_
      · show effI z k kd 3 i = _
        rw [effI_3, upI_n _ _ hir]
      · show upF z.2.1 1 (cl (z.1 0 1)) x 1 i = _
        rw [upF_n _ _ hir]
    · intro _ _ _
      refine cg_3 ?_ (by rw [upA_c _ (by decide)])
      show effI z k kd 5 i = _
      rw [effI_c z k kd (c := 5) (by decide) (by decide) (by decide)]
    · intro hi _ _
      have hi3 : i < 3 := by rw [val_4] at hi; exact hi.1
      refine cg_4 (fun j hj => ?_)
      show orf _ (effI z k kd 6 (3 * i + j)) = _
      rw [effI_c z k kd (c := 6) (by decide) (by decide) (by decide)]
      exact old6 _ (by omega)
    · intro _ _ _
      refine cg_5 ?_ ?_ ?_ ?_ ?_ rfl
      · show effI z k kd 8 i = _
        rw [effI_c z k kd (c := 8) (by decide) (by decide) (by decide)]
      · show effI z k kd 9 i = _
        rw [effI_c z k kd (c := 9) (by decide) (by decide) (by decide)]
      · show effI z k kd 10 i = _
        rw [effI_c z k kd (c := 10) (by decide) (by decide) (by decide)]
      · show upF z.2.1 1 (cl (z.1 0 1)) x 2 i = _
        rw [upF_c _ _ (by decide)]
      · show upF z.2.1 1 (cl (z.1 0 1)) x 3 i = _
        rw [upF_c _ _ (by decide)]
def hdI (z : SG) (h t c r : Int32) : gI := upI (upI (upI (upI z.1 7 (cl h) 1) 8 (cl h) t) 9 (cl h) c) 10 (cl h) r
theorem hdI_c (z : SG) (h t c r : Int32) {j : Nat} (h7 : j ≠ 7) (h8 : j ≠ 8) (h9 : j ≠ 9) (h10 : j ≠ 10) : hdI z h t c r j = z.1 j := by
  unfold hdI; rw [upI_c _ _ h10, upI_c _ _ h9, upI_c _ _ h8, upI_c _ _ h7]
theorem hdI_s (z : SG) (h t c r : Int32) : hdI z h t c r 7 (cl h) = 1 ∧ hdI z h t c r 8 (cl h) = t ∧ hdI z h t c r 9 (cl h) = c ∧ hdI z h t c r 10 (cl h) = r := by
  unfold hdI
  refine ⟨?_, ?_, ?_, upI_s _ _ _ _⟩
  · rw [upI_c (c := 10) _ _ (by decide), upI_c (c := 9) _ _ (by decide), upI_c (c := 8) _ _ (by decide), upI_s]
  · rw [upI_c (c := 10) _ _ (by decide), upI_c (c := 9) _ _ (by decide), upI_s]
  · rw [upI_c (c := 10) _ _ (by decide), upI_s]
theorem hdI_n (z : SG) (h t c r : Int32) {j i : Nat} (hi : i ≠ cl h) : hdI z h t c r j i = z.1 j i := by
  unfold hdI; rw [upI_n _ _ hi, upI_n _ _ hi, upI_n _ _ hi, upI_n _ _ hi]
abbrev hdZ (z : SG) (h t c r : Int32) (x : UInt64) : SG := (hdI z h t c r, upF (upF z.2.1 2 (cl h) x) 3 (cl h) 0, upL z.2.2 0 (cl h) 0)
theorem XS.nHd {q : Nat} {hd t c r : Int32} {x : UInt64} (h : XS cT fu fd ad M z) (hk : inR hd 4) (hne : ∀ c i, val z c i → ad c i ≠ q) (hq : M q = some (.inr (1, [.int t, .int c, .int r, .double x, .double 0, .long 0]))) (hM : M1 = va_up M (ad 0 8) (some (.inl (cT 6, 4, rQ (va_up (fun k => if k < 4 then (if z.1 7 k = 0 then none else some (ad 5 k)) else none) (cl hd) (some q)))))) : XS cT fu fd (upA ad 5 (cl hd) q) M1 (hdZ z hd t c r x) := by
  have hk4 := in_cl hk
  have hcc : ∀ j, j ≠ 7 → j ≠ 8 → j ≠ 9 → j ≠ 10 → hdI z hd t c r j = z.1 j := fun j h7 h8 h9 h10 => hdI_c z hd t c r h7 h8 h9 h10
  refine XS.put1 (by decide) h (show 8 < 10 by decide) hne ?_ (hM.trans (congrArg (fun w => va_up M (ad 0 8) (some w)) ?_)) (hq.trans (congrArg some ?_)) ?_
  · intro c' i
    refine to6 (P := fun c' => val (hdZ z hd t c r x) c' i → ¬ (c' = 5 ∧ i = cl hd) → val z c' i) ⟨?_, ?_, ?_, ?_, ?_, ?_⟩ (fun c q w => absurd w (val6 q)) c'
    · rw [val_0, val_0]; exact fun w _ => w
    · rw [val_1, val_1]
      show i < cl (hdI z hd t c r 0 0) → _
      rw [hcc 0 (by decide) (by decide) (by decide) (by decide)]
      exact fun w _ => w
    · rw [val_2, val_2]
      show i < cl (hdI z hd t c r 0 1) → _
      rw [hcc 0 (by decide) (by decide) (by decide) (by decide)]
      exact fun w _ => w
    · rw [val_3, val_3]
      show i < 3 ∧ ¬ hdI z hd t c r 5 i < 0 → _
      rw [hcc 5 (by decide) (by decide) (by decide) (by decide)]
      exact fun w _ => w
    · rw [val_4, val_4]
      show i < 3 ∧ ¬ hdI z hd t c r 5 i < 0 → _
      rw [hcc 5 (by decide) (by decide) (by decide) (by decide)]
      exact fun w _ => w
    · rw [val_5, val_5]
      intro w f
      have hi : i ≠ cl hd := fun e => f ⟨rfl, e⟩
      have w2 : i < 4 ∧ ¬ hdI z hd t c r 7 i = 0 := w
      rw [hdI_n _ _ _ _ _ hi] at w2
      exact w2
  · rw [cx_08]
    refine congrArg (fun g => (Sum.inl (cT 6, 4, rQ g) : va_E)) (tr_up hk4 ?_ (fun j hj hjk => ?_))
    · show (if hdI z hd t c r 7 (cl hd) = 0 then none else some (upA ad 5 (cl hd) q 5 (cl hd))) = _
      rw [(hdI_s z hd t c r).1, upA_s]; exact if_neg (by decide)
    · show (if hdI z hd t c r 7 j = 0 then none else some (upA ad 5 (cl hd) q 5 j)) = _
      rw [hdI_n _ _ _ _ _ hjk, upA_n _ (fun e => hjk e.2)]
  · rw [cx_5]
    show _ = (Sum.inr (1, [.int (hdI z hd t c r 8 (cl hd)), .int (hdI z hd t c r 9 (cl hd)), .int (hdI z hd t c r 10 (cl hd)), .double (upF (upF z.2.1 2 (cl hd) x) 3 (cl hd) 0 2 (cl hd)), .double (upF (upF z.2.1 2 (cl hd) x) 3 (cl hd) 0 3 (cl hd)), .long (upL z.2.2 0 (cl hd) 0 0 (cl hd))]) : va_E)
    rw [(hdI_s z hd t c r).2.1, (hdI_s z hd t c r).2.2.1, (hdI_s z hd t c r).2.2.2, upF_c (c := 3) (c' := 2) _ _ (by decide), upF_s, upF_s, upL_s]
  · intro c' i
    refine to6 (P := fun c' => val z c' i → ¬ (c' = 5 ∧ i = cl hd) → ¬ (c' = 0 ∧ i = 8) → cx cT fu fd (upA ad 5 (cl hd) q) (hdZ z hd t c r x) c' i = cx cT fu fd ad z c' i) ⟨?_, ?_, ?_, ?_, ?_, ?_⟩ (fun c q w => absurd w (val6 q)) c'
    · intro hi _ hij
      refine cg_0 (j := 8) hi (fun w => hij ⟨rfl, w⟩) (upA_c _ (by decide)) ?_ ?_ (fun _ k2 hk2 => ?_) (fun _ k2 hk2 => ?_) (fun _ k2 hk2 => ?_) (fun _ k2 hk2 => ?_) (fun w => absurd rfl w) (fun _ k2 hk2 => ?_)
      · show hdI z hd t c r 0 2 = _
        rw [hcc 0 (by decide) (by decide) (by decide) (by decide)]
      · show upL z.2.2 0 (cl hd) 0 1 = _
        rw [upL_c _ _ (by decide)]
      · show orf _ (hdI z hd t c r 2 k2) = _
        rw [hcc 2 (by decide) (by decide) (by decide) (by decide), upA_c _ (by decide)]
      · show orf _ (hdI z hd t c r 2 (6 + k2)) = _
        rw [hcc 2 (by decide) (by decide) (by decide) (by decide), upA_c _ (by decide)]
      · show orf _ (hdI z hd t c r 4 k2) = _
        rw [hcc 4 (by decide) (by decide) (by decide) (by decide), upA_c _ (by decide)]
      · show (if hdI z hd t c r 5 k2 < 0 then none else some (upA ad 5 (cl hd) q 3 k2)) = _
        rw [hcc 5 (by decide) (by decide) (by decide) (by decide), upA_c _ (by decide)]
      · show upF (upF z.2.1 2 (cl hd) x) 3 (cl hd) 0 4 k2 = _
        rw [upF_c _ _ (by decide), upF_c _ _ (by decide)]
    · intro _ _ _
      refine cg_1 ?_ (fun j hj => ?_)
      · show hdI z hd t c r 1 i = _
        rw [hcc 1 (by decide) (by decide) (by decide) (by decide)]
      · show upF (upF z.2.1 2 (cl hd) x) 3 (cl hd) 0 0 (16 * i + j) = _
        rw [upF_c _ _ (by decide), upF_c _ _ (by decide)]
    · intro _ _ _
      refine cg_2 ?_ ?_
      · show hdI z hd t c r 3 i = _
        rw [hcc 3 (by decide) (by decide) (by decide) (by decide)]
      · show upF (upF z.2.1 2 (cl hd) x) 3 (cl hd) 0 1 i = _
        rw [upF_c _ _ (by decide), upF_c _ _ (by decide)]
    · intro _ _ _
      refine cg_3 ?_ (by rw [upA_c _ (by decide)])
      show hdI z hd t c r 5 i = _
      rw [hcc 5 (by decide) (by decide) (by decide) (by decide)]
    · intro _ _ _
      refine cg_4 (fun j hj => ?_)
      show orf _ (hdI z hd t c r 6 (3 * i + j)) = _
      rw [hcc 6 (by decide) (by decide) (by decide) (by decide), upA_c _ (by decide)]
    · intro hi hne2 _
      have hir : i ≠ cl hd := fun w => hne2 ⟨rfl, w⟩
      refine cg_5 ?_ ?_ ?_ ?_ ?_ ?_
      · exact hdI_n (j := 8) z hd t c r hir
      · exact hdI_n (j := 9) z hd t c r hir
      · exact hdI_n (j := 10) z hd t c r hir
      · show upF (upF z.2.1 2 (cl hd) x) 3 (cl hd) 0 2 i = _
        rw [upF_n _ _ hir, upF_n _ _ hir]
      · show upF (upF z.2.1 2 (cl hd) x) 3 (cl hd) 0 3 i = _
        rw [upF_n _ _ hir, upF_n _ _ hir]
      · show upL z.2.2 0 (cl hd) 0 0 i = _
        rw [upL_n _ _ hir]
def rckI (z : SG) (r kd : Int32) : gI := upI (upI (upI (upI z.1 5 (cl r) kd) 6 (3 * cl r) (-1)) 6 (3 * cl r + 1) (-1)) 6 (3 * cl r + 2) (-1)
theorem rckI_c (z : SG) (r kd : Int32) {c : Nat} (h5 : c ≠ 5) (h6 : c ≠ 6) : rckI z r kd c = z.1 c := by
  unfold rckI; rw [upI_c _ _ h6, upI_c _ _ h6, upI_c _ _ h6, upI_c _ _ h5]
theorem rckI_5 (z : SG) (r kd : Int32) : rckI z r kd 5 = upI z.1 5 (cl r) kd 5 := by
  unfold rckI; rw [upI_c (c := 6) _ _ (by decide), upI_c (c := 6) _ _ (by decide), upI_c (c := 6) _ _ (by decide)]
theorem rckI_6 (z : SG) (r kd : Int32) {j : Nat} (hj : ¬ (3 * cl r ≤ j ∧ j < 3 * cl r + 3)) : rckI z r kd 6 j = z.1 6 j := by
  unfold rckI; rw [upI_n _ _ (by omega), upI_n _ _ (by omega), upI_n _ _ (by omega), upI_c _ _ (by decide)]
theorem rckI_6s (z : SG) (r kd : Int32) {j : Nat} (hj : j < 3) : rckI z r kd 6 (3 * cl r + j) = -1 := by
  unfold rckI
  rcases (show j = 0 ∨ j = 1 ∨ j = 2 by omega) with rfl | rfl | rfl
  · rw [upI_n _ _ (by omega), upI_n _ _ (by omega)]; exact upI_s _ _ _ _
  · rw [upI_n _ _ (by omega)]; exact upI_s _ _ _ _
  · exact upI_s _ _ _ _
abbrev rckZ (z : SG) (r kd : Int32) : SG := (rckI z r kd, z.2)
theorem XS.nRck {q q2 : Nat} {r kd : Int32} (h : XS cT fu fd ad M z) (hk : inR r 3) (hkd : ¬ kd < 0) (hne : ∀ c i, val z c i → ad c i ≠ q) (hne2 : ∀ c i, val z c i → ad c i ≠ q2) (hqq : q ≠ q2) (hq : M q = some (.inr (3, [.int kd, .ref q2]))) (hq2 : M q2 = some (.inl (cT 5, 3, rQ (fun _ => none)))) (hM : M1 = va_up M (ad 0 7) (some (.inl (cT 7, 3, rQ (va_up (fun k => if k < 3 then (if z.1 5 k < 0 then none else some (ad 3 k)) else none) (cl r) (some q)))))) : XS cT fu fd (upA (upA ad 3 (cl r) q) 4 (cl r) q2) M1 (rckZ z r kd) := by
  have hk3 := in_cl hk
  have a3 : upA (upA ad 3 (cl r) q) 4 (cl r) q2 3 = upA ad 3 (cl r) q 3 := upA_c _ (by decide)
  have a4 : upA (upA ad 3 (cl r) q) 4 (cl r) q2 4 (cl r) = q2 := upA_s _ _ _ _
  have ac : ∀ c, c ≠ 3 → c ≠ 4 → upA (upA ad 3 (cl r) q) 4 (cl r) q2 c = ad c := fun c h3 h4 => by rw [upA_c _ h4, upA_c _ h3]
  have an : ∀ c i, i ≠ cl r → upA (upA ad 3 (cl r) q) 4 (cl r) q2 c i = ad c i := fun c i hi => by rw [upA_n _ (fun e => hi e.2), upA_n _ (fun e => hi e.2)]
  generalize hAD : upA (upA ad 3 (cl r) q) 4 (cl r) q2 = AD at a3 a4 ac an ⊢
  have a3s : AD 3 (cl r) = q := by rw [a3, upA_s]
  refine XS.put (j := 7) (fun c i => (c = 3 ∨ c = 4) ∧ i = cl r) h (by decide) ?_ ?_ ?_ (fun w => by rcases w.1 with e | e <;> exact absurd e (by decide)) (hM.trans (congrArg (fun w => va_up M (ad 0 7) (some w)) ?_)) ?_ ?_
  · intro c i
    refine to6 (P := fun c => val (rckZ z r kd) c i → ¬ ((c = 3 ∨ c = 4) ∧ i = cl r) → val z c i ∧ AD c i = ad c i) ⟨?_, ?_, ?_, ?_, ?_, ?_⟩ (fun c q w => absurd w (val6 q)) c
    · rw [val_0, val_0, ac 0 (by decide) (by decide)]; exact fun w _ => ⟨w, rfl⟩
    · rw [val_1, val_1, ac 1 (by decide) (by decide)]
      show i < cl (rckI z r kd 0 0) → _
      rw [rckI_c z r kd (c := 0) (by decide) (by decide)]
      exact fun w _ => ⟨w, rfl⟩
    · rw [val_2, val_2, ac 2 (by decide) (by decide)]
      show i < cl (rckI z r kd 0 1) → _
      rw [rckI_c z r kd (c := 0) (by decide) (by decide)]
      exact fun w _ => ⟨w, rfl⟩
    · rw [val_3, val_3]
      show i < 3 ∧ ¬ rckI z r kd 5 i < 0 → _
      intro w f
      have hi : i ≠ cl r := fun e => f ⟨Or.inl rfl, e⟩
      rw [rckI_5, upI_n _ _ hi] at w
      exact ⟨w, an 3 i hi⟩
    · rw [val_4, val_4]
      show i < 3 ∧ ¬ rckI z r kd 5 i < 0 → _
      intro w f
      have hi : i ≠ cl r := fun e => f ⟨Or.inr rfl, e⟩
      rw [rckI_5, upI_n _ _ hi] at w
      exact ⟨w, an 4 i hi⟩
    · rw [val_5, val_5, ac 5 (by decide) (by decide)]
      show i < 4 ∧ ¬ rckI z r kd 7 i = 0 → _
      rw [rckI_c z r kd (c := 7) (by decide) (by decide)]
      exact fun w _ => ⟨w, rfl⟩
  · rintro c i ⟨rfl | rfl, rfl⟩ c' i' w
    · rw [a3s]; exact hne c' i' w
    · rw [a4]; exact hne2 c' i' w
  · rintro c i c' i' ⟨rfl | rfl, rfl⟩ ⟨rfl | rfl, rfl⟩ e
    · exact ⟨rfl, rfl⟩
    · rw [a3s, a4] at e; exact absurd e hqq
    · rw [a3s, a4] at e; exact absurd e.symm hqq
    · exact ⟨rfl, rfl⟩
  · rw [cx_07]
    refine congrArg (fun g => (Sum.inl (cT 7, 3, rQ g) : va_E)) (tr_up hk3 ?_ (fun j hj hjk => ?_))
    · show (if rckI z r kd 5 (cl r) < 0 then none else some (AD 3 (cl r))) = _
      rw [rckI_5, upI_s, a3s]; exact if_neg hkd
    · show (if rckI z r kd 5 j < 0 then none else some (AD 3 j)) = _
      rw [rckI_5, upI_n _ _ hjk, an 3 j hjk]
  · rintro c i ⟨rfl | rfl, rfl⟩
    · rw [a3s, hq, cx_3]
      show _ = some (Sum.inr (3, [.int (rckI z r kd 5 (cl r)), .ref (AD 4 (cl r))]) : va_E)
      rw [rckI_5, upI_s, a4]
    · rw [a4, hq2, cx_4]
      refine congrArg (fun g => some (Sum.inl (cT 5, 3, rQ g) : va_E)) ?_
      funext j
      by_cases c : j < 3
      · rw [if_pos c]
        show _ = orf (AD 2) (rckI z r kd 6 (3 * cl r + j))
        rw [rckI_6s z r kd c]; rfl
      · rw [if_neg c]
  · intro c i _
    refine to6 (P := fun c => val z c i → ¬ ((c = 3 ∨ c = 4) ∧ i = cl r) → ¬ (c = 0 ∧ i = 7) → cx cT fu fd AD (rckZ z r kd) c i = cx cT fu fd ad z c i) ⟨?_, ?_, ?_, ?_, ?_, ?_⟩ (fun c q w => absurd w (val6 q)) c
    · intro hi _ hij
      refine cg_0 (j := 7) hi (fun w => hij ⟨rfl, w⟩) (ac 0 (by decide) (by decide)) ?_ rfl (fun _ k2 hk2 => ?_) (fun _ k2 hk2 => ?_) (fun _ k2 hk2 => ?_) (fun w => absurd rfl w) (fun _ k2 hk2 => ?_) (fun _ k2 hk2 => rfl)
      · show rckI z r kd 0 2 = _
        rw [rckI_c z r kd (c := 0) (by decide) (by decide)]
      · show orf _ (rckI z r kd 2 k2) = _
        rw [rckI_c z r kd (c := 2) (by decide) (by decide), ac 1 (by decide) (by decide)]
      · show orf _ (rckI z r kd 2 (6 + k2)) = _
        rw [rckI_c z r kd (c := 2) (by decide) (by decide), ac 1 (by decide) (by decide)]
      · show orf _ (rckI z r kd 4 k2) = _
        rw [rckI_c z r kd (c := 4) (by decide) (by decide), ac 2 (by decide) (by decide)]
      · show (if rckI z r kd 7 k2 = 0 then none else some (AD 5 k2)) = _
        rw [rckI_c z r kd (c := 7) (by decide) (by decide), ac 5 (by decide) (by decide)]
    · intro _ _ _
      refine cg_1 ?_ (fun j hj => rfl)
      show rckI z r kd 1 i = _
      rw [rckI_c z r kd (c := 1) (by decide) (by decide)]
    · intro _ _ _
      refine cg_2 ?_ rfl
      show rckI z r kd 3 i = _
      rw [rckI_c z r kd (c := 3) (by decide) (by decide)]
    · intro _ f _
      have hi : i ≠ cl r := fun e => f ⟨Or.inl rfl, e⟩
      refine cg_3 ?_ (an 4 i hi)
      show rckI z r kd 5 i = _
      rw [rckI_5, upI_n _ _ hi]
    · intro _ f _
      have hi : i ≠ cl r := fun e => f ⟨Or.inr rfl, e⟩
      refine cg_4 (fun j hj => ?_)
      show orf _ (rckI z r kd 6 (3 * i + j)) = _
      rw [rckI_6 z r kd (by omega), ac 2 (by decide) (by decide)]
    · intro _ _ _
      refine cg_5 ?_ ?_ ?_ rfl rfl rfl
      · show rckI z r kd 8 i = _
        rw [rckI_c z r kd (c := 8) (by decide) (by decide)]
      · show rckI z r kd 9 i = _
        rw [rckI_c z r kd (c := 9) (by decide) (by decide)]
      · show rckI z r kd 10 i = _
        rw [rckI_c z r kd (c := 10) (by decide) (by decide)]
end XSM
