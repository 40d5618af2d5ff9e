/-! ===== sequences that come round; a curve in its least terms ===== -/
def Per (H : Int → Int) (a P c : Int) : Prop := ∀ t : Int, a ≤ t → H (t + P) = H t + c
theorem Per.later {H : Int → Int} {a b P c : Int} (h : Per H a P c) (hab : a ≤ b) : Per H b P c := fun t ht => h t (by omega)
theorem Per.mul {H : Int → Int} {a P c : Int} (h : Per H a P c) (hP : 0 ≤ P) (k : Nat) : Per H a (k * P) (k * c) := by
  induction k with
  | zero => intro t _; simp
  | succ k ih =>
    intro t ht
    have hk : 0 ≤ (k : Int) * P := Int.mul_nonneg (by omega) hP
    have e1 : t + ((k + 1 : Nat) : Int) * P = t + k * P + P := by rw [Int.natCast_add, Int.add_mul]; simp; omega
    have e2 : ((k + 1 : Nat) : Int) * c = k * c + c := by rw [Int.natCast_add, Int.add_mul]; simp
    rw [e1, h _ (by omega), ih t ht, e2]; omega
/-- what comes round somewhere by a step does so from wherever a turn is -/
theorem Per.back {H : Int → Int} {a b P c D C : Int} (h : Per H a P c) (hP : 1 ≤ P) (k : Per H b D C) (hD : 0 ≤ D) : Per H a D C := by
  intro t ht
  have hm := h.mul (by omega) (b - a).toNat
  have hge : b - a ≤ ((b - a).toNat : Int) * P := by
    have : ((b - a).toNat : Int) * 1 ≤ ((b - a).toNat : Int) * P := Int.mul_le_mul_of_nonneg_left hP (by omega)
    omega
  have h1 := hm t ht
  have h2 := hm (t + D) (by omega)
  have h3 := k (t + ((b - a).toNat : Int) * P) (by omega)
  rw [show t + D + ((b - a).toNat : Int) * P = t + ((b - a).toNat : Int) * P + D by omega, h3, h1] at h2
  omega
theorem Per.sub {H : Int → Int} {a P Q c e : Int} (h : Per H a P c) (k : Per H a Q e) (hQ : 0 ≤ Q) (hPQ : Q ≤ P) : Per H a (P - Q) (c - e) := by
  intro t ht
  have h1 := h t ht
  have h2 := k (t + (P - Q)) (by omega)
  rw [show t + (P - Q) + Q = t + P by omega] at h2
  omega
theorem Per.uniq {H : Int → Int} {a b P c e : Int} (h : Per H a P c) (k : Per H b P e) : c = e := by
  have h1 := h (max a b) (by omega)
  have h2 := k (max a b) (by omega)
  omega
/-- the rest by a step is a step too, where it isn't 0 -/
theorem Per.mod {H : Int → Int} {a P c D C : Int} (h : Per H a P c) (hP : 0 ≤ P) (k : Per H a D C) (hD : 1 ≤ D) : Per H a (P % D) (c - (P / D) * C) := by
  have hq : 0 ≤ P / D := Int.ediv_nonneg hP (by omega)
  have hm := k.mul (by omega) (P / D).toNat
  rw [show (((P / D).toNat : Nat) : Int) = P / D by omega] at hm
  have e := Int.mul_ediv_add_emod P D
  have m0 := Int.emod_nonneg P (show D ≠ 0 by omega)
  have e2 : P / D * D = D * (P / D) := Int.mul_comm _ _
  have hz : 0 ≤ P / D * D := Int.mul_nonneg hq (by omega)
  have := h.sub hm hz (by omega)
  rwa [show P - P / D * D = P % D by omega] at this
/-- a curve's least terms: START, STEP, GAIN -/
def Canon (H : Int → Int) (T D C : Int) : Prop := 0 ≤ T ∧ T ≤ 200 ∧ 1 ≤ D ∧ Per H T D C ∧ (T = 0 ∨ H (T - 1 + D) ≠ H (T - 1) + C) ∧ ∀ D' C' : Int, 1 ≤ D' → D' < D → ¬ Per H 200 D' C'
theorem Canon.uniq {H : Int → Int} {T D C T' D' C' : Int} (h : Canon H T D C) (k : Canon H T' D' C') : T = T' ∧ D = D' ∧ C = C' := by
  obtain ⟨a1, a2, a3, a4, a5, a6⟩ := h
  obtain ⟨b1, b2, b3, b4, b5, b6⟩ := k
  have hD : D = D' := by
    rcases Int.lt_trichotomy D D' with q | q | q
    · exact absurd (a4.later a2) (b6 D C a3 q)
    · exact q
    · exact absurd (b4.later b2) (a6 D' C' b3 q)
  subst hD
  have hC := a4.uniq b4
  subst hC
  refine ⟨?_, rfl, rfl⟩
  rcases Int.lt_trichotomy T T' with q | q | q
  · rcases b5 with b5 | b5
    · omega
    · exact absurd (a4 (T' - 1) (by omega)) b5
  · exact q
  · rcases a5 with a5 | a5
    · omega
    · exact absurd (b4 (T - 1) (by omega)) a5
/-- the least step divides any other -/
theorem Canon.dvd {H : Int → Int} {T D C P c : Int} (h : Canon H T D C) (hP : 1 ≤ P) (k : Per H 200 P c) : P % D = 0 ∧ c = (P / D) * C := by
  obtain ⟨a1, a2, a3, a4, a5, a6⟩ := h
  have h1 := k.mod (by omega) (a4.later a2) a3
  have m0 := Int.emod_nonneg P (show D ≠ 0 by omega)
  have m1 := Int.emod_lt_of_pos P (show 0 < D by omega)
  have hz : P % D = 0 := by
    rcases Int.lt_or_eq_of_le m0 with q | q
    · exact absurd h1 (a6 _ _ (by omega) m1)
    · exact q.symm
  refine ⟨hz, ?_⟩
  rw [hz] at h1
  have := h1 200 (Int.le_refl _)
  rw [Int.add_zero] at this
  omega
def InB (H : Int → Int) (T D C : Int) : Prop := C ≤ 1000000000 ∧ H (T + D - 1) ≤ 1000000000000
def NoCv (H : Int → Int) (P c : Int) : Prop := Per H 200 P c → ∀ T D C : Int, Canon H T D C → ¬ InB H T D C
def YesCv (H : Int → Int) (P c T D C : Int) : Prop := Per H 200 P c ∧ Canon H T D C ∧ InB H T D C
theorem YesCv.uniq {H : Int → Int} {P c T D C T' D' C' : Int} (h : YesCv H P c T D C) (k : YesCv H P c T' D' C') : T = T' ∧ D = D' ∧ C = C' := h.2.1.uniq k.2.1
theorem YesCv.no {H : Int → Int} {P c T D C : Int} (h : YesCv H P c T D C) (k : NoCv H P c) : False := k h.1 T D C h.2.1 h.2.2
/-- one turn tells it for ever -/
theorem Per.turn {H : Int → Int} {a P c D C : Int} (h : Per H a P c) (hP : 1 ≤ P) (h1 : ∀ t : Int, a ≤ t → t < a + P → H (t + D) = H t + C) (hD : 0 ≤ D) : Per H a D C := by
  have key : ∀ n : Nat, ∀ t : Int, a ≤ t → (t - a).toNat ≤ n → H (t + D) = H t + C := by
    intro n
    induction n with
    | zero => intro t h0 h2; exact h1 t h0 (by omega)
    | succ n ih =>
      intro t h0 h2
      by_cases q : t < a + P
      · exact h1 t h0 q
      · have i := ih (t - P) (by omega) (by omega)
        have e1 := h (t - P) (by omega)
        have e2 := h (t - P + D) (by omega)
        rw [show t - P + P = t by omega] at e1
        rw [show t - P + D + P = t + D by omega] at e2
        omega
  exact fun t ht => key _ t ht (Nat.le_refl _)
theorem LStep.per {H : Int → Int} {fr tu s c : Int} (h : LStep H fr tu s) (hp : Per H fr tu c) (ht : 1 ≤ tu) : Per H fr s (H (fr + s) - H fr) := by
  obtain ⟨h1, h2, h3, h4⟩ := h
  by_cases q : s < tu
  · exact hp.turn ht (h3 q) (by omega)
  · have e : s = tu := by omega
    subst e
    have := hp fr (Int.le_refl _)
    rw [this, show H fr + c - H fr = c by omega]
    exact hp
/-- what settled finds is canonical -/
theorem canon_of {H : Int → Int} {fr tu s c st : Int} (h : LStep H fr tu s) (hp : Per H fr tu c) (ht : 1 ≤ tu) (h0 : 0 ≤ st) (h2 : st ≤ 200) (hper : Per H st s (H (fr + s) - H fr)) (hst : st = 0 ∨ H (st - 1 + s) ≠ H (st - 1) + (H (fr + s) - H fr)) : Canon H st s (H (fr + s) - H fr) := by
  refine ⟨h0, h2, h.1, hper, hst, fun D' C' q1 q2 q3 => ?_⟩
  have k := hp.back ht q3 (by omega)
  have e : C' = H (fr + D') - H fr := by have := k fr (Int.le_refl _); omega
  subst e
  exact h.2.2.2 D' q1 q2 fun t r1 _ => k t r1
theorem yes_per {H : Int → Int} {fr tu s c st : Int} (hs : 1 ≤ s) (hp : Per H fr tu c) (htu : 1 ≤ tu) (h2 : st ≤ 200) {g : Int} (hper : Per H st s g) : Per H 200 tu c :=
  (hper.back hs hp (by omega)).later h2
theorem no_far {H : Int → Int} {fr tu s c st g : Int} (hs : 1 ≤ s) (htu : 1 ≤ tu) (h2 : 200 < st) (hper : Per H fr s g) (hne : H (st - 1 + s) ≠ H (st - 1) + g) : NoCv H tu c := by
  intro q T D C _ _
  exact hne ((q.back htu hper (by omega)) (st - 1) (by omega))
theorem no_big {H : Int → Int} {tu c T D C : Int} (h : Canon H T D C) (hb : ¬ InB H T D C) : NoCv H tu c := by
  intro _ T' D' C' k q
  obtain ⟨e1, e2, e3⟩ := h.uniq k
  subst e1; subst e2; subst e3
  exact hb q
/-- the kind, by the reference's order -/
def kindS (T D C : Int) (am : Nat → Int) : Int := if D = 1 ∧ T = 1 ∧ am 0 = 0 ∧ C < am 1 then 1 else if D = 1 ∧ T = 0 ∧ am 0 = 0 then 2 else if D = 1 ∧ 0 < T ∧ 0 < C ∧ am T.toNat = 0 then 3 else if 1 < D ∧ T = 0 ∧ 0 < C ∧ am (D - 1).toNat = 0 then 4 else 0
def kindN (ci : Nat) : Int := if ci = 0 then 1 else if ci = 4 then 2 else if ci = 2 then 3 else if ci = 6 then 4 else 0
def KindOk (ci : Nat) (T D C : Int) (am : Nat → Int) (ld : Int) : Prop := kindS T D C am = kindN ci ∧ (ci = 0 → ld = am 1 - C)
/-- System.arraycopy between rows of longs, from their beginnings -/
theorem cpy_cv (f g : Nat → Int) (n : Nat) : va_cpy (fun j => Int64.ofInt (f j)) (fun j => Int64.ofInt (g j)) 0 0 n = fun k => Int64.ofInt (va_cpy f g 0 0 n k) := by
  funext k
  simp only [va_cpy]
  by_cases h : 0 ≤ k ∧ k < 0 + n
  · rw [if_pos h, if_pos h]
  · rw [if_neg h, if_neg h]
theorem x_copyJ {G : aG} {X : aM} {d mc ms : Nat} {Q : Option aV → aH → Prop} {pc : Nat} {L : List (Nat × aV)} {st : List aV} {h : aH} {kc ks : Nat} {a b m n idx : Nat} {f g : Nat → Int} {k : Int} (hd : decode X.2.1 pc = .ok (.invokestatic idx, 3)) (hlk : Cond.methodLink X.1.cls idx arraycopyName ∈ lw_ok) (ha : h a = some (eJ m f)) (hb : h b = some (eJ n g)) (hk0 : 0 ≤ k) (hkm : k ≤ m) (hkn : k ≤ n) (hd1 : 1 ≤ d) (hcat : ((st.map cv).map fun v => v.category).sum ≤ 8)
    (kk : EX G X d mc ms Q (pc + 3) L st (hset h b (eJ n (va_cpy f g 0 0 k.toNat))) kc ks) : EX G X d mc ms Q pc L (vI k :: vI 0 :: vA b :: vI 0 :: vA a :: st) h kc ks := by
  intro p e s m0 args below meth c A H ls locs C hA w hS ho h1 h2 hl
  have hts := C.2.2.2.2.2.1
  obtain ⟨Ls, q0, hP, hD, hL, hm, hk⟩ := w.get ha
  have hbm : b ∈ Ls := (hL b).mpr (by rw [hb]; rfl)
  obtain ⟨q1, hkb⟩ := va_pl_get (X := []) (f := ceh G h) hbm
  rw [List.nil_append, ceh_at G hb] at hkb
  have ok := ok_I h1
  have e1 : Cond.native arraycopyName ∈ lw_ok := by decide +kernel
  have e2 : Cond.static arraycopyName ∈ lw_ok := by decide +kernel
  have e3 : Cond.initialized "java/lang/System" ∈ lw_ok := by decide +kernel
  have n0 : (Int32.ofInt 0).toNatClampNeg = 0 := rfl
  have nk := i32_nat ok hk0
  refine va_copyl (A := A) (dp := Int32.ofInt 0) (sp := Int32.ofInt 0) (n := Int32.ofInt k) C.1 C.2.1 (C.2.2.1.trans hl.1.symm) C.2.2.2.2.1 (hts _ hlk) (hts _ e1) (hts _ e2) (hts _ e3) C.2.2.2.2.2.2.2.2.1 hP hD hS q0 q1 1 1 hk hkb rfl rfl rfl (by decide) (by decide) ?_ (by rw [n0, nk]; omega) (by rw [n0, nk]; omega) (fun i _ => rfl) hd1 ?_ hd fun H1 locs1 hP1 hD1 hS1 => ?_
  · intro q
    have := (i32_lt ok okI_0).mp q
    omega
  · show ((st.map cv).map fun v => v.category).sum + (5 + 2 + 11) ≤ 38 * d
    omega
  · rw [n0, nk, cpy_cv] at hP1 hD1
    have hok : okE (eJ n (va_cpy f g 0 0 k.toNat)) := by
      intro j
      show okJ (va_cpy f g 0 0 k.toNat j)
      simp only [va_cpy]
      split
      · exact ho a _ ha _
      · exact ho b _ hb _
    exact kk p e s m0 args below meth c A H1 ls locs1 C hA (aWd.upd hb hD hL hbm hkb (e := eJ n (va_cpy f g 0 0 k.toNat)) hP1 hD1) hS1 (ho.set hok) (ok_t (ok_t (ok_t (ok_t (ok_t h1))))) h2 hl
