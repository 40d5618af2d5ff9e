/-! ===== the mathematical state, and what each call answers and leaves ===== -/
/-- curves: how many; START, STEP, GAIN, AMOUNTS by number; may undo; THE ROW: how many, what; STEPS: how many, what; server; TRACE; latest -/
abbrev aS : Type := Int × (Int → Int) × (Int → Int) × (Int → Int) × (Int → Nat → Int) × Int × Int × (Nat → Int) × Int × (Nat → Int) × Int × (Nat → Int) × Int
def sLa (x : Int) : aS → aS
  | (cu, cT, cD, cC, cA, mu, rn, rw, sn, sm, sv, tl, _) => (cu, cT, cD, cC, cA, mu, rn, rw, sn, sm, sv, tl, x)
def rf (k : Int) (S : aS) : Int × aS := (k, sLa k S)
/-- a refusal of a call that tells an amount, or of unlike() -/
def rfA (v k : Int) (S : aS) : Int × aS := (v, sLa k S)
def fi (v : Int) (S : aS) : Int × aS := (v, sLa 0 S)
def sCu (S : aS) : Int := S.1
def sT (S : aS) (i : Int) : Int := S.2.1 i
def sD (S : aS) (i : Int) : Int := S.2.2.1 i
def sC (S : aS) (i : Int) : Int := S.2.2.2.1 i
def sA (S : aS) (i : Int) : Nat → Int := S.2.2.2.2.1 i
def sF (S : aS) (i : Int) : Int → Int := cval (sT S i) (sD S i) (sC S i) (sA S i)
def sMu (S : aS) : Int := S.2.2.2.2.2.1
def sRn (S : aS) : Int := S.2.2.2.2.2.2.1
def sRw (S : aS) : Nat → Int := S.2.2.2.2.2.2.2.1
def sSn (S : aS) : Int := S.2.2.2.2.2.2.2.2.1
def sSm (S : aS) : Nat → Int := S.2.2.2.2.2.2.2.2.2.1
def sSv (S : aS) : Int := S.2.2.2.2.2.2.2.2.2.2.1
def sTl (S : aS) : Nat → Int := S.2.2.2.2.2.2.2.2.2.2.2.1
def sLt (S : aS) : Int := S.2.2.2.2.2.2.2.2.2.2.2.2
def isC (S : aS) (f : Int) : Prop := 0 ≤ f ∧ f < sCu S
def iup {α : Type} (f : Int → α) (k : Int) (v : α) : Int → α := fun j => if j = k then v else f j
theorem iup_self {α : Type} (f : Int → α) (k : Int) (v : α) : iup f k v k = v := if_pos rfl
theorem iup_ne {α : Type} (f : Int → α) {k j : Int} (v : α) (h : j ≠ k) : iup f k v j = f j := if_neg h
/-- the curve that a sequence tells by a turn, if it is one -/
noncomputable def mkT (H : Int → Int) (P c : Int) : Option (Int × Int × Int) := @dite _ (∃ x : Int × Int × Int, YesCv H P c x.1 x.2.1 x.2.2) (Classical.propDecidable _) (fun h => some (Classical.choose h)) (fun _ => none)
theorem mkT_yes {H : Int → Int} {P c T D C : Int} (h : YesCv H P c T D C) : mkT H P c = some (T, D, C) := by
  have hx : ∃ x : Int × Int × Int, YesCv H P c x.1 x.2.1 x.2.2 := ⟨(T, D, C), h⟩
  rw [mkT, dif_pos hx]
  obtain ⟨e1, e2, e3⟩ := (Classical.choose_spec hx).uniq h
  congr 1
  exact Prod.ext e1 (Prod.ext e2 e3)
theorem mkT_no {H : Int → Int} {P c : Int} (h : NoCv H P c) : mkT H P c = none := by
  rw [mkT, dif_neg]
  rintro ⟨x, hx⟩
  exact hx.no h
def sAdd (T D C : Int) (H : Int → Int) : aS → aS
  | (cu, cT, cD, cC, cA, _, rn, rw, sn, sm, sv, tl, _) => (cu + 1, iup cT cu T, iup cD cu D, iup cC cu C, iup cA cu (fun k => H k), 1, rn, rw, sn, sm, sv, tl, 0)
noncomputable def mkO (H : Int → Int) (P c : Int) (S : aS) : Int × aS := match mkT H P c with
  | none => rf (-4) S
  | some (T, D, C) => (sCu S, sAdd T D C H S)
def sRow (n : Int) (rw' : Nat → Int) : aS → aS
  | (cu, cT, cD, cC, cA, mu, _, _, sn, sm, sv, tl, la) => (cu, cT, cD, cC, cA, mu, n, rw', sn, sm, sv, tl, la)
def sRun (n : Int) (sm' : Nat → Int) : aS → aS
  | (cu, cT, cD, cC, cA, mu, rn, rw, _, _, sv, tl, la) => (cu, cT, cD, cC, cA, mu, rn, rw, n, sm', sv, tl, la)
def sSrv (v : Int) : aS → aS
  | (cu, cT, cD, cC, cA, mu, rn, rw, sn, sm, _, tl, la) => (cu, cT, cD, cC, cA, mu, rn, rw, sn, sm, v, tl, la)
def sTal (g : Nat → Int) : aS → aS
  | (cu, cT, cD, cC, cA, mu, rn, rw, sn, sm, sv, _, la) => (cu, cT, cD, cC, cA, mu, rn, rw, sn, sm, sv, g, la)
def sCnt (n m : Int) : aS → aS
  | (_, cT, cD, cC, cA, _, rn, rw, sn, sm, sv, tl, la) => (n, cT, cD, cC, cA, m, rn, rw, sn, sm, sv, tl, la)
def oPut (v : Int) (S : aS) : Int × aS := if v < 0 ∨ 1000000000000 < v then rf (-1) S else if 300 ≤ sRn S then rf (-3) S else fi (sRn S + 1) (sRow (sRn S + 1) (va_up (sRw S) (sRn S).toNat v) S)
/-- draws: from a z and a row of n amounts, k more -/
def drw (most : Int) : Nat → Int → Int → (Nat → Int) → Int × (Nat → Int)
  | 0, _, n, w => (n, w)
  | k + 1, z, n, w => drw most k ((z * 1103515245 + 12345) % 2147483648) (n + 1) (va_up w n.toNat ((if n = 0 then 0 else w (n - 1).toNat) + ((z * 1103515245 + 12345) % 2147483648 / 256) % (most + 1)))
def oDraw (n z most : Int) (S : aS) : Int × aS := if (n < 1 ∨ 300 < n) ∨ (most < 0 ∨ 1000000 < most) then rf (-1) S else if 300 < sRn S + n then rf (-3) S else fi (sRn S + n) (sRow (drw most n.toNat z (sRn S) (sRw S)).1 (drw most n.toNat z (sRn S) (sRw S)).2 S)
def oDrop (S : aS) : Int × aS := fi (sRn S) (sRow 0 (sRw S) S)
/-- THE ROW tells a curve by a step and a gain -/
def RowGood (n : Int) (w : Nat → Int) (st gn : Int) : Prop := st ≤ n ∧ (∀ i : Int, 0 ≤ i → i + 1 < n → w i.toNat ≤ w (i + 1).toNat) ∧ w (n - 1).toNat ≤ w (n - st).toNat + gn
noncomputable def oCurve (st gn : Int) (S : aS) : Int × aS := if (st < 1 ∨ 60 < st) ∨ (gn < 0 ∨ 1000000000 < gn) then rf (-1) S else
  @ite _ (RowGood (sRn S) (sRw S) st gn) (Classical.propDecidable _) (if 60 ≤ sCu S then rf (-3) S else
    match mkT (cval (sRn S - st) st gn (sRw S)) st gn with
    | none => rf (-4) S
    | some (T, D, C) => (sCu S, sRow 0 (sRw S) (sAdd T D C (cval (sRn S - st) st gn (sRw S)) S))) (rf (-2) S)
noncomputable def oRay (c : Int) (S : aS) : Int × aS := if c < 0 ∨ 1000000000 < c then rf (-1) S else if 60 ≤ sCu S then rf (-3) S else mkO (fun t => c * t) 1 c S
noncomputable def cond {α : Type} (P : Prop) (a b : α) : α := @ite α P (Classical.propDecidable P) a b
theorem cond_t {α : Type} {P : Prop} {a b : α} (h : P) : cond P a b = a := by rw [cond, if_pos h]
theorem cond_f {α : Type} {P : Prop} {a b : α} (h : ¬ P) : cond P a b = b := by rw [cond, if_neg h]
/-- the turn of two curves, -1 where it is above 60 -/
def sP (S : aS) (f g : Int) : Int := lcmS (sD S f) (sD S g)
def sGi (S : aS) (f p : Int) : Int := sC S f * (p / sD S f)
def sMx (S : aS) (f g : Int) : Int := max (sT S f) (sT S g) + sP S f g
noncomputable def oOf (w f g : Int) (S : aS) : Int × aS := cond ((w < 0 ∨ 5 < w) ∨ ¬ isC S f ∨ ¬ isC S g) (rf (-1) S) (if 60 ≤ sCu S then rf (-3) S else if sP S f g = -1 then rf (-4) S else
  if w = 5 ∧ sGi S g (sP S f g) < sGi S f (sP S f g) then rf (-5) S else mkO (wayS w (sF S f) (sF S g) (sMx S f g)) (sP S f g) (wayC w (sGi S f (sP S f g)) (sGi S g (sP S f g))) S)
noncomputable def oTimes (f n : Int) (S : aS) : Int × aS := cond (¬ isC S f ∨ (n < 0 ∨ 1000 < n)) (rf (-1) S) (if 60 ≤ sCu S then rf (-3) S else mkO (timesS n (sF S f)) (sD S f) (n * sC S f) S)
noncomputable def oShift (f n : Int) (S : aS) : Int × aS := cond (¬ isC S f ∨ (n < 0 ∨ 200 < n)) (rf (-1) S) (if 60 ≤ sCu S then rf (-3) S else mkO (shiftS n (sF S f)) (sD S f) (sC S f) S)
def oUndo (S : aS) : Int × aS := if sMu S = 0 then rf (-2) S else fi (sCu S - 1) (sSrv (if sSv S = sCu S - 1 then -1 else sSv S) (sCnt (sCu S - 1) 0 S))
def sK (S : aS) (f : Int) : Int := kindS (sT S f) (sD S f) (sC S f) (sA S f)
def tlAt (k : Int) (g : Nat → Int) : Nat → Int := if k = 1 then mk1 (mk1 g 1) 2 else mk1 g k.toNat
noncomputable def oAt (f t : Int) (S : aS) : Int × aS := cond (¬ isC S f ∨ (t < 0 ∨ 1000000000 < t)) (rfA (-1) (-1) S) (fi (sF S f t) (sTal (tlAt (sK S f) (sTl S)) S))
noncomputable def oAbout (f w : Int) (S : aS) : Int × aS := cond (¬ isC S f ∨ (w < 0 ∨ 4 < w)) (rf (-1) S) (fi (if w = 0 then sT S f else if w = 1 then sD S f else if w = 2 then sC S f else if w = 3 then sK S f else b2i (Closed (sT S f) (sD S f) (sC S f) (sA S f))) S)
noncomputable def oRate (f w : Int) (S : aS) : Int × aS := cond (¬ isC S f ∨ (w < 0 ∨ 1 < w)) (rf (-1) S) (fi (if w = 0 then sC S f / ((Int.gcd (sC S f) (sD S f) : Nat) : Int) else sD S f / ((Int.gcd (sC S f) (sD S f) : Nat) : Int)) S)
noncomputable def oUnlike (f g : Int) (S : aS) : Int × aS := cond (¬ isC S f ∨ ¬ isC S g) (rfA (-2) (-1) S) (if sP S f g = -1 then rfA (-2) (-4) S else fi (unlikeS (sF S f) (sF S g) (sMx S f g)) S)
noncomputable def oBelow (f g : Int) (S : aS) : Int × aS := cond (¬ isC S f ∨ ¬ isC S g) (rf (-1) S) (if sP S f g = -1 then rf (-4) S else fi (b2i (sGi S f (sP S f g) ≤ sGi S g (sP S f g) ∧ ∀ t : Int, 0 ≤ t → t < sMx S f g → sF S f t ≤ sF S g t)) S)
noncomputable def oFirst (f v : Int) (S : aS) : Int × aS := cond (¬ isC S f ∨ v < 0) (rf (-1) S) (if firstS (sF S f) v 1000000000 = -1 then rf (-5) S else fi (firstS (sF S f) v 1000000000) S)
noncomputable def oHeap (f g : Int) (S : aS) : Int × aS := cond (¬ isC S f ∨ ¬ isC S g) (rfA (-1) (-1) S) (if sP S f g = -1 then rfA (-1) (-4) S else if sGi S g (sP S f g) < sGi S f (sP S f g) then rfA (-1) (-5) S else fi (sup0 (fun t => sF S f t - sF S g t) (sMx S f g).toNat) S)
noncomputable def oWait (f g : Int) (S : aS) : Int × aS := cond (¬ isC S f ∨ ¬ isC S g) (rf (-1) S) (if sP S f g = -1 then rf (-4) S else if sGi S g (sP S f g) < sGi S f (sP S f g) then rf (-5) S else if waitS (sF S f) (sF S g) (sMx S f g) = -1 then rf (-5) S else fi (waitS (sF S f) (sF S g) (sMx S f g)) S)
def oCome (a : Int) (S : aS) : Int × aS := if a < 0 ∨ 1000000000 < a then rf (-1) S else if 60 ≤ sSn S then rf (-3) S else fi (sSn S + 1) (sRun (sSn S + 1) (va_up (sSm S) (sSn S).toNat a) S)
noncomputable def oHardest (f n : Int) (S : aS) : Int × aS := cond (¬ isC S f ∨ (n < 0 ∨ 60 < n) ∨ ¬ ∀ t : Int, 1 ≤ t → t ≤ n → hstep (sF S f) t ≤ 1000000000) (rf (-1) S) (fi n (sRun n (fun k : Nat => hstep (sF S f) (k + 1)) S))
def oStop (S : aS) : Int × aS := fi (sSn S) (sRun 0 (sSm S) S)
noncomputable def oServe (g : Int) (S : aS) : Int × aS := cond (¬ isC S g) (rf (-1) S) (fi 1 (sSrv g S))
def oMoved (sd t : Int) (S : aS) : Int × aS := if (sd < 0 ∨ 2 < sd) ∨ (t < 0 ∨ 600 < t) then rfA (-1) (-1) S else if sd = 0 then fi (arrS (sSn S) (sSm S) t) S else if sSv S < 0 then rfA (-1) (-2) S else
  if sd = 1 then fi (servS (sSn S) (sSm S) (sF S (sSv S)) t) S else fi (arrS (sSn S) (sSm S) t - servS (sSn S) (sSm S) (sF S (sSv S)) t) S
noncomputable def oLate (t : Int) (S : aS) : Int × aS := if t < 0 ∨ sSn S < t then rf (-1) S else if sSv S < 0 then rf (-2) S else if lateS (sSn S) (sSm S) (sF S (sSv S)) t = -1 then rf (-5) S else fi (lateS (sSn S) (sSm S) (sF S (sSv S)) t) S
def oMostHeld (S : aS) : Int × aS := if sSv S < 0 then rfA (-1) (-2) S else fi (sup0 (fun t => arrS (sSn S) (sSm S) t - servS (sSn S) (sSm S) (sF S (sSv S)) t) (sSn S + 1).toNat) S
noncomputable def oMostLate (S : aS) : Int × aS := if sSv S < 0 then rf (-2) S else if mostLateS (sSn S) (sSm S) (sF S (sSv S)) = -1 then rf (-5) S else fi (mostLateS (sSn S) (sSm S) (sF S (sSv S))) S
noncomputable def oKeeps (f : Int) (S : aS) : Int × aS := cond (¬ isC S f) (rf (-1) S) (fi (b2i (keepsS (sSn S) (sSm S) (sF S f))) S)
def oCount (w : Int) (S : aS) : Int × aS := (if w = 0 then sCu S else if w = 1 then sRn S else if w = 2 then sSn S else if w = 3 then sSv S else if w = 4 then sMu S else -1, S)
def oTrace (b : Int) (S : aS) : Int × aS := (if b < 0 ∨ 4 < b then -1 else sTl S b.toNat, S)
def oStatus (S : aS) : Int × aS := (sLt S, S)
def oClear (S : aS) : Int × aS := fi 1 (sSrv (-1) (sRun 0 (sSm S) (sRow 0 (sRw S) (sCnt 0 0 S))))
/-- what every state keeps to, behind so many calls -/
def SOk (n : Nat) (S : aS) : Prop := (0 ≤ sCu S ∧ sCu S ≤ 60) ∧ (∀ i : Int, 0 ≤ i → i < sCu S → CvOk (sT S i) (sD S i) (sC S i) (sA S i)) ∧ ((sMu S = 0 ∨ sMu S = 1) ∧ (sMu S = 1 → 1 ≤ sCu S)) ∧ (0 ≤ sRn S ∧ sRn S ≤ 300 ∧ ∀ i : Int, 0 ≤ i → i < sRn S → 0 ≤ sRw S i.toNat ∧ sRw S i.toNat ≤ 1000000000000 + i * 1000000) ∧ StepsOk (sSn S) (sSm S) ∧ (-1 ≤ sSv S ∧ sSv S < sCu S) ∧ ∀ j, 0 ≤ sTl S j ∧ sTl S j ≤ n
