/-! ===== small helps of the walks ===== -/
theorem okI_c {x : Int} (h : (decide (-2147483648 ≤ x) && decide (x ≤ 2147483647)) = true) : okI x := by
  simp only [Bool.and_eq_true, decide_eq_true_eq] at h
  exact h
theorem okJ_c {x : Int} (h : (decide (-9223372036854775808 ≤ x) && decide (x ≤ 9223372036854775807)) = true) : okJ x := by
  simp only [Bool.and_eq_true, decide_eq_true_eq] at h
  exact h
section XN
variable {G : aG} {X : aM} {d mc ms : Nat} {Q : Option aV → aH → Prop} {pc : Nat} {L : List (Nat × aV)} {st : List aV} {h : aH} {kc ks : Nat}
theorem x_nmI {x : Int} (k : ∀ y : Int, y = x → EX G X d mc ms Q pc L (vI y :: st) h kc ks) : EX G X d mc ms Q pc L (vI x :: st) h kc ks := k x rfl
theorem x_nmJ {x : Int} (k : ∀ y : Int, y = x → EX G X d mc ms Q pc L (vJ y :: st) h kc ks) : EX G X d mc ms Q pc L (vJ x :: st) h kc ks := k x rfl
theorem x_asI {x y : Int} (e : x = y) (k : EX G X d mc ms Q pc L (vI y :: st) h kc ks) : EX G X d mc ms Q pc L (vI x :: st) h kc ks := e ▸ k
theorem x_asJ {x y : Int} (e : x = y) (k : EX G X d mc ms Q pc L (vJ y :: st) h kc ks) : EX G X d mc ms Q pc L (vJ x :: st) h kc ks := e ▸ k
theorem x_asR {x y : Option Nat} (e : x = y) (k : EX G X d mc ms Q pc L (vR y :: st) h kc ks) : EX G X d mc ms Q pc L (vR x :: st) h kc ks := e ▸ k
theorem x_ash {h' : aH} (e : h = h') (k : EX G X d mc ms Q pc L st h' kc ks) : EX G X d mc ms Q pc L st h kc ks := e ▸ k
theorem x_nmh (k : ∀ h' : aH, h' = h → EX G X d mc ms Q pc L st h' kc ks) : EX G X d mc ms Q pc L st h kc ks := k h rfl
theorem x_newN {ci : Nat} {fs : List aV} {idx : Nat} (n : Nat) (hd : decode X.2.1 pc = .ok (.new idx, 3)) (hF : aNew X.1.cls idx ci fs) (hn : fs.length = n) (hc : kc + 1 ≤ mc) (hs : ks + n ≤ ms) (k : ∀ q : Nat, h q = none → (∀ b : Nat, (h b).isSome = true → b < q) → EX G X d mc ms Q (pc + 3) L (vA q :: st) (hset h q (eO ci fs)) (kc + 1) (ks + n)) : EX G X d mc ms Q pc L st h kc ks := by
  subst hn
  exact x_new hd hF hc hs k
def Ret (v : aV) (h : aH) : Option aV → aH → Prop := fun r h' => r = some v ∧ h' = h
def Voi (h : aH) : Option aV → aH → Prop := fun r h' => r = none ∧ h' = h
theorem after_ret {v : aV} {h' : aH} (k : EX G X d mc ms Q pc L (v :: st) h' kc ks) : ∀ (r : Option aV) (h1 : aH), Ret v h' r h1 → EX G X d mc ms Q pc L (r.toList ++ st) h1 kc ks := by
  rintro r h1 ⟨rfl, rfl⟩
  exact k
theorem after_void {h' : aH} (k : EX G X d mc ms Q pc L st h' kc ks) : ∀ (r : Option aV) (h1 : aH), Voi h' r h1 → EX G X d mc ms Q pc L (r.toList ++ st) h1 kc ks := by
  rintro r h1 ⟨rfl, rfl⟩
  exact k
end XN
theorem retI {x y : Int} {h : aH} (e : x = y) : Ret (vI y) h (some (vI x)) h := ⟨by rw [e], rfl⟩
theorem retJ {x y : Int} {h : aH} (e : x = y) : Ret (vJ y) h (some (vJ x)) h := ⟨by rw [e], rfl⟩
theorem retR {x y : Option Nat} {h : aH} (e : x = y) : Ret (vR y) h (some (vR x)) h := ⟨by rw [e], rfl⟩
theorem nar_r (r : Option Nat) {ty : FieldType} (h : (∃ n, ty = .object n) ∨ ∃ t, ty = .array t) : narrow ty (cv (vR r)) = cv (vR r) := by
  rcases h with ⟨n, rfl⟩ | ⟨t, rfl⟩ <;> cases r <;> rfl
theorem fit_r (r : Option Nat) {ty : FieldType} (h : (∃ n, ty = .object n) ∨ ∃ t, ty = .array t) : fits ty (cv (vR r)) = true := by
  rcases h with ⟨n, rfl⟩ | ⟨t, rfl⟩ <;> cases r <;> rfl
theorem MC.mono {G : aG} {X : aM} {d mc ms : Nat} {args : List aV} {h : aH} {Q Q' : Option aV → aH → Prop} (k : MC G X d mc ms args h Q) (hq : ∀ r h', Q r h' → Q' r h') : MC G X d mc ms args h Q' := by
  intro ha hh sz
  have := k ha hh sz
  intro p e h1 h2 h3 s m av below h4 h5 h6 h7
  obtain ⟨t, o, b1, b2, b3, b4⟩ := this p e h1 h2 h3 s m av below h4 h5 h6 h7
  exact ⟨t, o, b1, b2, b3, aQ.mono hq b4.1, b4.2⟩
-- the state of a curve
def cvF (ci : Nat) (T D C : Int) (a : Nat) (ld : Int) : List aV := vI T :: vI D :: vI C :: vA a :: (if ci = 0 then [vJ ld] else [])
def CvAt (h : aH) (c ci a : Nat) (T D C : Int) (am : Nat → Int) (ld : Int) : Prop := h c = some (eO ci (cvF ci T D C a ld)) ∧ h a = some (eJ (T + D).toNat am) ∧ ci ∈ [0, 1, 2, 4, 6]
/-- an amount of a curve at a span -/
def cval (T D C : Int) (am : Nat → Int) (t : Int) : Int := if t < T + D then am t.toNat else am (T + (t - T) % D).toNat + (t - T) / D * C
/-- what a curve's numbers keep to -/
def CvOk (T D C : Int) (am : Nat → Int) : Prop := 0 ≤ T ∧ T ≤ 200 ∧ 1 ≤ D ∧ D ≤ 60 ∧ 0 ≤ C ∧ C ≤ 1000000000 ∧ (∀ i : Int, 0 ≤ i → i < T + D → 0 ≤ am i.toNat ∧ am i.toNat ≤ 1000000000000) ∧ (∀ i : Int, 0 ≤ i → i + 1 < T + D → am i.toNat ≤ am (i + 1).toNat) ∧ am (T + D - 1).toNat ≤ am T.toNat + C
