/-! the state of a mixer, as the reference holds it: rows of ints, of doubles, of longs.
I 0: rows, effects, failure; I 1 sizes; I 2 rowOf; I 3 kinds; I 4 effectOf; I 5 rackOf; I 6 hooks; I 7 isSet; I 8 track; I 9 curve; I 10 rack; I 11 (of our own): which rows are curves'
F 0 items; F 1 amounts; F 2 rate; F 3 place; F 4 mix. L 0 steps; L 1: clock, told -/
abbrev gI : Type := Nat → Nat → Int32
abbrev gF : Type := Nat → Nat → UInt64
abbrev gL : Type := Nat → Nat → Int64
abbrev SG : Type := gI × gF × gL
def upI (I : gI) (c k : Nat) (x : Int32) : gI := va_up I c (upd (I c) k x)
def upF (F : gF) (c k : Nat) (x : UInt64) : gF := va_up F c (vf_upd (F c) k x)
def upL (L : gL) (c k : Nat) (x : Int64) : gL := va_up L c (vp_updL (L c) k x)
abbrev cl (x : Int32) : Nat := x.toNatClampNeg
def slot (cv k : Int32) : Nat := cl (if cv = 0 then k else 6 + k)
def zeroF (F : gF) (r : Nat) : gF := va_up F 0 (fun j => if 16 * r ≤ j ∧ j < 16 * r + 16 then 0 else F 0 j)
def ask (s : SG) (cv k i : Int32) : Int32 := if s.1 2 (slot cv k) < 0 then 1 else if inR i (cl (s.1 1 (cl (s.1 2 (slot cv k))))) then 0 else 2
def itm (s : SG) (cv k i : Int32) : Nat := 16 * cl (s.1 2 (slot cv k)) + cl i
def toldS (s : SG) (x : Int64) : SG := (s.1, s.2.1, upL s.2.2 1 1 x)
def sp_row (s : SG) (cv k n : Int32) : Int32 × SG :=
  if inR k 6 ∧ inR n 17 then (1, (upI (upI (upI (upI s.1 1 (cl (s.1 0 0)) n) 2 (slot cv k) (s.1 0 0)) 0 0 (s.1 0 0 + 1)) 11 (cl (s.1 0 0)) (if cv = 0 then 0 else 1), zeroF s.2.1 (cl (s.1 0 0)), s.2.2)) else (-1, s)
def sp_share (s : SG) (cv f t : Int32) : Int32 × SG :=
  if inR f 6 ∧ inR t 6 then (if s.1 2 (slot cv f) < 0 then 0 else 1, (upI s.1 2 (slot cv t) (s.1 2 (slot cv f)), s.2)) else (-1, s)
def sp_drop (s : SG) (cv k : Int32) : Int32 × SG :=
  if inR k 6 then (if s.1 2 (slot cv k) < 0 then 0 else 1, (upI s.1 2 (slot cv k) (-1), s.2)) else (-1, s)
abbrev okB (cv : Int32) (b : Int64) : Prop := if cv = 0 then fin32 (lo32 b) else fin64 b.toUInt64
def numB (cv : Int32) (b : Int64) : UInt64 := if cv = 0 then FP.f2d (lo32 b) else b.toUInt64
def bitB (cv : Int32) (x : UInt64) : Int64 := if cv = 0 then (FP.d2f x).toInt32.toInt64 else x.toInt64
def sp_set (s : SG) (cv k i : Int32) (b : Int64) : Int32 × SG :=
  if inR k 6 ∧ okB cv b then (if ask s cv k i = 0 then (1, (s.1, upF s.2.1 0 (itm s cv k i) (numB cv b), s.2.2)) else (-10 - ask s cv k i, s)) else (-1, s)
def sp_get (s : SG) (cv k i : Int32) : Int32 × SG :=
  if inR k 6 then (if ask s cv k i = 0 then (1, toldS s (bitB cv (s.2.1 0 (itm s cv k i)))) else (-10 - ask s cv k i, s)) else (-1, s)
def sp_wrap (s : SG) (cv k i j : Int32) : Int32 × SG :=
  if inR k 6 then (if ask s cv k i = 0 ∧ ask s cv k j = 0 then (if dEq (s.2.1 0 (itm s cv k j)) FP.dconst0 then (-15, s) else (1, (s.1, upF s.2.1 0 (itm s cv k i) (FP.drem (s.2.1 0 (itm s cv k i)) (s.2.1 0 (itm s cv k j))), s.2.2)))
    else (-10 - (if ask s cv k i = 0 then ask s cv k j else ask s cv k i), s)) else (-1, s)
abbrev rng (a lo hi : UInt64) : Prop := ¬ dLt a lo ∧ ¬ dGt a hi
def sp_effect (s : SG) (k kd : Int32) (b : Int64) : Int32 × SG :=
  if inR k 6 ∧ inR kd 3 ∧ fin64 b.toUInt64 ∧ rng b.toUInt64 13920209183539462144 4696837146684686336 then
    (1, (upI (upI (upI s.1 3 (cl (s.1 0 1)) kd) 4 (cl k) (s.1 0 1)) 0 1 (s.1 0 1 + 1), upF s.2.1 1 (cl (s.1 0 1)) b.toUInt64, s.2.2)) else (-1, s)
def lvl (a : UInt64) : Int32 := if FP.d2i a < 1 then 1 else FP.d2i a
def mkv (kd : Int32) (a v : UInt64) : UInt64 :=
  if kd = 0 then FP.dmul v a else if kd = 1 then foldf (FP.drem (FP.dmul v a) d2) else FP.ddiv (FP.l2d (FP.d2l (FP.dmul v (FP.i2d (lvl a))))) (FP.i2d (lvl a))
/-- what effect e makes -/
def mde (s : SG) (e : Int32) (v : UInt64) : UInt64 := FP.f2d (heldf (mkv (s.1 3 (cl e)) (s.2.1 1 (cl e)) v))
def sp_make (s : SG) (k : Int32) (b : Int64) : Int32 × SG :=
  if inR k 6 ∧ fin32 (lo32 b) then (if s.1 4 (cl k) < 0 then (-11, s) else (1, toldS s (bitB 0 (mde s (s.1 4 (cl k)) (FP.f2d (lo32 b)))))) else (-1, s)
def sp_rack (s : SG) (r kd : Int32) : Int32 × SG :=
  if inR r 3 ∧ inR kd 3 then (1, (upI (upI (upI (upI s.1 5 (cl r) kd) 6 (3 * cl r) (-1)) 6 (3 * cl r + 1) (-1)) 6 (3 * cl r + 2) (-1), s.2)) else (-1, s)
def sp_hang (s : SG) (r i k : Int32) : Int32 × SG :=
  if inR r 3 ∧ inR k 6 then (if s.1 5 (cl r) < 0 then (-11, s) else if inR i 3 then (if ¬ s.1 4 (cl k) < 0 ∧ ¬ fitsP (s.1 3 (cl (s.1 4 (cl k)))) (s.1 5 (cl r)) then (-14, s) else (1, (upI s.1 6 (3 * cl r + cl i) (s.1 4 (cl k)), s.2))) else (-12, s)) else (-1, s)
def sp_take (s : SG) (r i kd k : Int32) : Int32 × SG :=
  if inR r 3 ∧ inR kd 3 ∧ inR k 6 then (if s.1 5 (cl r) < 0 then (-11, s) else if inR i 3 then (if ¬ s.1 6 (3 * cl r + cl i) < 0 ∧ ¬ fitsP (s.1 3 (cl (s.1 6 (3 * cl r + cl i)))) kd then (-13, s) else (if s.1 6 (3 * cl r + cl i) < 0 then 0 else 1, (upI s.1 4 (cl k) (s.1 6 (3 * cl r + cl i)), s.2))) else (-12, s)) else (-1, s)
def sp_head (s : SG) (h t c r : Int32) (b : Int64) : Int32 × SG :=
  if inR h 4 ∧ inR t 6 ∧ (c = -1 ∨ inR c 6) ∧ (r = -1 ∨ inR r 3) ∧ fin64 b.toUInt64 ∧ rng b.toUInt64 13857576053419016192 4634204016564240384 then
    (1, (upI (upI (upI (upI s.1 7 (cl h) 1) 8 (cl h) t) 9 (cl h) c) 10 (cl h) r, upF (upF s.2.1 2 (cl h) b.toUInt64) 3 (cl h) 0, upL s.2.2 0 (cl h) 0)) else (-1, s)
/-- the sample behind a curve -/
def stC (s : SG) (h : Nat) (v : UInt64) : UInt64 :=
  if s.1 9 h < 0 then v else FP.f2d (heldf (FP.dmul v (s.2.1 0 (16 * cl (s.1 2 (6 + cl (s.1 9 h))) + (s.2.2 0 h).toInt.toNat % cl (s.1 1 (cl (s.1 2 (6 + cl (s.1 9 h)))))))))
/-- the sample behind a rack -/
def stR (s : SG) (h : Nat) (v : UInt64) : UInt64 :=
  if s.1 10 h < 0 then v else mde s (s.1 6 (3 * cl (s.1 10 h) + 2)) (mde s (s.1 6 (3 * cl (s.1 10 h) + 1)) (mde s (s.1 6 (3 * cl (s.1 10 h))) v))
/-- why a step ends; 0: it doesn't -/
def stW (s : SG) (h : Nat) : Int32 :=
  if ask s 0 (s.1 8 h) (FP.d2i (s.2.1 3 h)) = 0 then
    (if ¬ s.1 9 h < 0 ∧ s.1 2 (6 + cl (s.1 9 h)) < 0 then 1 else if ¬ s.1 9 h < 0 ∧ s.1 1 (cl (s.1 2 (6 + cl (s.1 9 h)))) = 0 then 2
     else if ¬ s.1 10 h < 0 ∧ (s.1 5 (cl (s.1 10 h)) < 0 ∨ s.1 6 (3 * cl (s.1 10 h)) < 0 ∨ s.1 6 (3 * cl (s.1 10 h) + 1) < 0 ∨ s.1 6 (3 * cl (s.1 10 h) + 2) < 0) then 1 else 0)
  else ask s 0 (s.1 8 h) (FP.d2i (s.2.1 3 h))
def wrapP (p n : UInt64) : UInt64 := if dLt p FP.dconst0 then (if dLt (FP.dadd p n) n then FP.dadd p n else FP.dconst0) else p
def stV (s : SG) (h : Nat) : UInt64 := stR s h (stC s h (s.2.1 0 (itm s 0 (s.1 8 h) (FP.d2i (s.2.1 3 h)))))
def stS (s : SG) (h : Nat) : SG :=
  (s.1, upF (upF s.2.1 4 ((s.2.2 0 h).toInt.toNat % 8) (FP.f2d (heldf (FP.dadd (s.2.1 4 ((s.2.2 0 h).toInt.toNat % 8)) (stV s h))))) 3 h (wrapP (FP.drem (FP.dadd (s.2.1 3 h) (s.2.1 2 h)) (FP.i2d (s.1 1 (cl (s.1 2 (slot 0 (s.1 8 h))))))) (FP.i2d (s.1 1 (cl (s.1 2 (slot 0 (s.1 8 h))))))), upL s.2.2 0 h (s.2.2 0 h + 1))
def sp_step (s : SG) (h : Nat) : Int32 × SG := if stW s h = 0 then (0, stS s h) else (stW s h, s)
/-- n steps: how many were done, why it ended, the state -/
def plz (h : Nat) : Nat → SG → Nat × Int32 × SG
  | 0, s => (0, 0, s)
  | n + 1, s => if stW s h = 0 then ((plz h n (stS s h)).1 + 1, (plz h n (stS s h)).2) else (0, stW s h, s)
def failS (s : SG) (w : Int32) : SG := (upI s.1 0 2 w, s.2)
def sp_play (s : SG) (h n : Int32) : Int32 × SG :=
  if inR h 4 ∧ ¬ s.1 7 (cl h) = 0 ∧ inR n 65 then (nI (plz (cl h) (cl n) (failS s 0)).1, failS (plz (cl h) (cl n) (failS s 0)).2.2 (plz (cl h) (cl n) (failS s 0)).2.1) else (-1, s)
def sp_failed (s : SG) : Int32 × SG := (if s.1 0 2 = 0 then 0 else -10 - s.1 0 2, s)
def mixT (x : UInt64) (how : Int32) : Int64 :=
  if how = 0 then (FP.d2f x).toInt32.toInt64 else if how = 1 then (FP.d2i (FP.dmul x 4674736138332667904)).toInt64 else if how = 2 then ((FP.d2i (FP.dmul x 4674736138332667904)).toInt16.toInt32).toInt64 else FP.d2l x
def sp_mix (s : SG) (i how : Int32) : Int32 × SG := if inR i 8 ∧ inR how 4 then (1, toldS s (mixT (s.2.1 4 (cl i)) how)) else (-1, s)
def sp_hush (s : SG) : Int32 × SG := (1, (s.1, va_up s.2.1 4 (fun j => if j < 8 then 0 else s.2.1 4 j), s.2.2))
def sp_at (s : SG) (h w : Int32) : Int32 × SG := if inR h 4 ∧ ¬ s.1 7 (cl h) = 0 ∧ inR w 2 then (1, toldS s (if w = 0 then (s.2.1 3 (cl h)).toInt64 else s.2.2 0 (cl h))) else (-1, s)
def clkT (c : Int64) (how : Int32) : Int64 :=
  if how = 0 then c else if how = 1 then (FP.l2f c).toInt32.toInt64 else if how = 2 then (FP.l2d c).toInt64 else if how = 3 then FP.f2l (FP.l2f c) else if how = 4 then FP.d2l (FP.l2d c) else (FP.f2i (FP.l2f c)).toInt64
def sp_clock (s : SG) (n : Int64) (how : Int32) : Int32 × SG := if inR how 6 then (1, (s.1, s.2.1, upL (upL s.2.2 1 0 (s.2.2 1 0 + n)) 1 1 (clkT (s.2.2 1 0 + n) how))) else (-1, s)
/-- a number that a float can be held by -/
abbrev flo (x : UInt64) : Prop := x.toNat % 9223372036854775808 ≤ 5183643170566569984
/-- what holds of every state, behind n calls -/
def INV (n : Nat) (s : SG) : Prop :=
  (∃ r, r ≤ n ∧ s.1 0 0 = nI r ∧ (∀ k, k < r → inR (s.1 1 k) 17) ∧ (∀ k, k < 12 → s.1 2 k < 0 ∨ cl (s.1 2 k) < r) ∧ (∀ k j, k < r → j < 16 → fin64 (s.2.1 0 (16 * k + j)) ∧ (s.1 11 k = 0 → flo (s.2.1 0 (16 * k + j)))) ∧ (∀ k, k < 6 → ¬ s.1 2 k < 0 → s.1 11 (cl (s.1 2 k)) = 0) ∧ (∀ k, k < 6 → ¬ s.1 2 (6 + k) < 0 → s.1 11 (cl (s.1 2 (6 + k))) = 1)) ∧
  (∃ m, m ≤ n ∧ s.1 0 1 = nI m ∧ (∀ k, k < m → fin64 (s.2.1 1 k) ∧ rng (s.2.1 1 k) 13920209183539462144 4696837146684686336) ∧ (∀ k, k < 6 → s.1 4 k < 0 ∨ cl (s.1 4 k) < m) ∧ (∀ k, k < 9 → s.1 6 k < 0 ∨ cl (s.1 6 k) < m)) ∧
  (∀ h, h < 4 → ¬ s.1 7 h = 0 → inR (s.1 8 h) 6 ∧ (s.1 9 h = -1 ∨ inR (s.1 9 h) 6) ∧ (s.1 10 h = -1 ∨ inR (s.1 10 h) 3) ∧ fin64 (s.2.1 2 h) ∧ rng (s.2.1 2 h) 13857576053419016192 4634204016564240384) ∧
  (∀ h, h < 4 → (s.2.1 3 h).toNat % 9223372036854775808 < 4625196817309499392 ∧ ∃ k, k ≤ 64 * n ∧ s.2.2 0 h = lN k) ∧
  (∀ i, i < 8 → ∃ x, fin32 x ∧ s.2.1 4 i = FP.f2d x)
