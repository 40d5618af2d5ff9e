/-! ===== a curve's amounts, as mathematics ===== -/
theorem cval_lt {T D C t : Int} {am : Nat → Int} (h : t < T + D) : cval T D C am t = am t.toNat := by rw [cval, if_pos h]
theorem cval_per {T D C t : Int} {am : Nat → Int} (hD : 1 ≤ D) (ht : T ≤ t) : cval T D C am (t + D) = cval T D C am t + C := by
  have e1 : (t + D - T) % D = (t - T) % D := by
    have := Int.add_mul_emod_self_right (a := t - T) (b := 1) (c := D)
    rw [Int.one_mul] at this
    rw [← this]; congr 1; omega
  have e2 : (t + D - T) / D = (t - T) / D + 1 := by
    have := Int.add_mul_ediv_right (t - T) 1 (show D ≠ 0 by omega)
    rw [Int.one_mul] at this
    rw [← this]; congr 1; omega
  rw [cval, if_neg (by omega), e1, e2]
  by_cases h : t < T + D
  · rw [cval, if_pos h, Int.emod_eq_of_lt (by omega) (by omega), Int.ediv_eq_zero_of_lt (by omega) (by omega)]
    rw [show T + (t - T) = t by omega]; omega
  · rw [cval, if_neg h, Int.add_mul]; omega
theorem cval_step {T D C : Int} {am : Nat → Int} (ok : CvOk T D C am) : ∀ (n : Nat) (t : Int), 0 ≤ t → t.toNat ≤ n → cval T D C am t ≤ cval T D C am (t + 1) := by
  obtain ⟨hT0, hT2, hD0, hD6, hC0, hC1, hA, hM, hW⟩ := ok
  intro n
  induction n with
  | zero =>
    intro t h0 hn
    have ht : t = 0 := by omega
    subst ht
    by_cases h1 : (0 : Int) + 1 < T + D
    · rw [cval_lt (by omega), cval_lt h1]; exact hM 0 (by omega) h1
    · have hT : T = 0 := by omega
      have hD : D = 1 := by omega
      subst hT; subst hD
      have := cval_per (T := 0) (D := 1) (C := C) (am := am) (t := 0) (by omega) (by omega)
      rw [this]; omega
  | succ n ih =>
    intro t h0 hn
    by_cases h1 : t + 1 < T + D
    · rw [cval_lt (by omega), cval_lt h1]; exact hM t (by omega) h1
    · by_cases h2 : t < T + D
      · have e : t + 1 = T + D := by omega
        rw [e, cval_per hD0 (Int.le_refl T), cval_lt h2, cval_lt (show T < T + D by omega)]
        rw [show t = T + D - 1 by omega]; exact hW
      · have p1 := cval_per (T := T) (D := D) (C := C) (am := am) (t := t - D) hD0 (by omega)
        have p2 := cval_per (T := T) (D := D) (C := C) (am := am) (t := t + 1 - D) hD0 (by omega)
        rw [show t - D + D = t by omega] at p1
        rw [show t + 1 - D + D = t + 1 by omega] at p2
        rw [p1, p2]
        have := ih (t - D) (by omega) (by omega)
        rw [show t - D + 1 = t + 1 - D by omega] at this
        omega
theorem cval_mono {T D C s t : Int} {am : Nat → Int} (ok : CvOk T D C am) (hs : 0 ≤ s) (hst : s ≤ t) : cval T D C am s ≤ cval T D C am t := by
  obtain ⟨k, rfl⟩ : ∃ k : Nat, t = s + k := ⟨(t - s).toNat, by omega⟩
  clear hst
  induction k with
  | zero => simp
  | succ k ih =>
    have := cval_step ok (s + k).toNat (s + k) (by omega) (Nat.le_refl _)
    rw [show s + ((k + 1 : Nat) : Int) = s + k + 1 by omega]
    omega
theorem cval_nn {T D C t : Int} {am : Nat → Int} (ok : CvOk T D C am) (ht : 0 ≤ t) : 0 ≤ cval T D C am t := by
  have h1 := cval_mono ok (Int.le_refl 0) ht
  obtain ⟨hT0, hT2, hD0, hD6, hC0, hC1, hA, hM, hW⟩ := ok
  have h2 := (hA 0 (by omega) (by omega)).1
  rw [cval_lt (t := 0) (by omega)] at h1
  omega
theorem cval_top {T D C t : Int} {am : Nat → Int} (ok : CvOk T D C am) (ht : 0 ≤ t) : cval T D C am t ≤ 1000000000000 + t * 1000000000 := by
  obtain ⟨hT0, hT2, hD0, hD6, hC0, hC1, hA, hM, hW⟩ := ok
  by_cases h : t < T + D
  · rw [cval_lt h]
    have := (hA t ht h).2
    omega
  · rw [cval, if_neg h]
    have m1 : 0 ≤ (t - T) % D := Int.emod_nonneg _ (by omega)
    have m2 : (t - T) % D < D := Int.emod_lt_of_pos _ (by omega)
    have q1 : 0 ≤ (t - T) / D := Int.ediv_nonneg (by omega) (by omega)
    have q2 : (t - T) / D ≤ t - T := Int.ediv_le_self _ (by omega)
    have := (hA (T + (t - T) % D) (by omega) (by omega)).2
    have h3 : (t - T) / D * C ≤ t * 1000000000 := Int.mul_le_mul (by omega) hC1 hC0 ht
    omega
theorem cval_pers {T D C t : Int} {am : Nat → Int} (hD : 1 ≤ D) (ht : T ≤ t) (k : Nat) : cval T D C am (t + k * D) = cval T D C am t + k * C := by
  induction k with
  | zero => simp
  | succ k ih =>
    have e : t + ((k + 1 : Nat) : Int) * D = t + k * D + D := by rw [Int.natCast_add, Int.add_mul]; simp; omega
    have hk : 0 ≤ (k : Int) * D := Int.mul_nonneg (by omega) (by omega)
    rw [e, cval_per hD (by omega), ih, Int.natCast_add, Int.add_mul]; simp; omega
-- truth as a number
noncomputable def b2i (P : Prop) : Int := @ite Int P (Classical.propDecidable P) 1 0
theorem b2i_t {P : Prop} (h : P) : b2i P = 1 := by rw [b2i, if_pos h]
theorem b2i_f {P : Prop} (h : ¬ P) : b2i P = 0 := by rw [b2i, if_neg h]
theorem b2i_or (P : Prop) : b2i P = 0 ∨ b2i P = 1 := by
  by_cases h : P
  · exact Or.inr (b2i_t h)
  · exact Or.inl (b2i_f h)
theorem b2i_congr {P Q : Prop} (h : P ↔ Q) : b2i P = b2i Q := by rw [propext h]
-- the least span with an amount of v or above
def First (F : Int → Int) (v last x : Int) : Prop := (x = -1 ∧ ∀ t, 0 ≤ t → t ≤ last → F t < v) ∨ (0 ≤ x ∧ x ≤ last ∧ v ≤ F x ∧ ∀ t, 0 ≤ t → t < x → F t < v)
theorem First.uniq {F : Int → Int} {v last x y : Int} (hx : First F v last x) (hy : First F v last y) : x = y := by
  rcases hx with ⟨h1, h2⟩ | ⟨h1, h2, h3, h4⟩ <;> rcases hy with ⟨g1, g2⟩ | ⟨g1, g2, g3, g4⟩
  · omega
  · have := h2 y g1 g2; omega
  · have := g2 x h1 h2; omega
  · rcases Int.lt_trichotomy x y with q | q | q
    · have := g4 x h1 q; omega
    · exact q
    · have := h4 y g1 q; omega
theorem First.ex (F : Int → Int) (v last : Int) : ∃ x, First F v last x := by
  have h : ∀ n : Nat, (∀ t : Int, 0 ≤ t → t < n → F t < v) ∨ ∃ x : Int, 0 ≤ x ∧ x < n ∧ v ≤ F x ∧ ∀ t, 0 ≤ t → t < x → F t < v := by
    intro n
    induction n with
    | zero => exact Or.inl fun t h0 h1 => by omega
    | succ n ih =>
      rcases ih with ih | ⟨x, a, b, c, e⟩
      · by_cases q : F n < v
        · left
          intro t h0 h1
          by_cases e : t = n
          · rw [e]; exact q
          · exact ih t h0 (by omega)
        · exact Or.inr ⟨n, by omega, by omega, by omega, ih⟩
      · exact Or.inr ⟨x, a, by omega, c, e⟩
  rcases h (last + 1).toNat with q | ⟨x, a, b, c, e⟩
  · exact ⟨-1, Or.inl ⟨rfl, fun t h0 h1 => q t h0 (by omega)⟩⟩
  · exact ⟨x, Or.inr ⟨a, by omega, c, e⟩⟩
noncomputable def firstS (F : Int → Int) (v last : Int) : Int := Classical.choose (First.ex F v last)
theorem firstS_spec (F : Int → Int) (v last : Int) : First F v last (firstS F v last) := Classical.choose_spec (First.ex F v last)
theorem First.eq {F : Int → Int} {v last x : Int} (h : First F v last x) : x = firstS F v last := h.uniq (firstS_spec F v last)
-- the greatest of some, 0 at least
def sup0 (f : Int → Int) : Nat → Int
  | 0 => 0
  | n + 1 => max (sup0 f n) (f n)
theorem sup0_s {f : Int → Int} {t : Int} (h : 0 ≤ t) : sup0 f (t + 1).toNat = max (sup0 f t.toNat) (f t) := by
  rw [show (t + 1).toNat = t.toNat + 1 by omega]
  show max _ (f (t.toNat : Int)) = _
  rw [show ((t.toNat : Nat) : Int) = t by omega]
theorem sup0_nn (f : Int → Int) (n : Nat) : 0 ≤ sup0 f n := by
  induction n with
  | zero => exact Int.le_refl 0
  | succ n ih => simp only [sup0]; omega
theorem sup0_ge {f : Int → Int} {n : Nat} {t : Int} (h0 : 0 ≤ t) (h : t < n) : f t ≤ sup0 f n := by
  induction n with
  | zero => omega
  | succ n ih =>
    simp only [sup0]
    by_cases e : t = n
    · subst e; omega
    · have := ih (by omega); omega
theorem sup0_le {f : Int → Int} {n : Nat} {v : Int} (hv : 0 ≤ v) (h : ∀ t : Int, 0 ≤ t → t < n → f t ≤ v) : sup0 f n ≤ v := by
  induction n with
  | zero => exact hv
  | succ n ih =>
    simp only [sup0]
    have h1 := ih fun t a b => h t a (by omega)
    have h2 := h n (by omega) (by omega)
    omega
theorem sup0_congr {f g : Int → Int} {n : Nat} (h : ∀ t : Int, 0 ≤ t → t < n → f t = g t) : sup0 f n = sup0 g n := by
  induction n with
  | zero => rfl
  | succ n ih =>
    simp only [sup0]
    rw [ih fun t a b => h t a (by omega), h n (by omega) (by omega)]
theorem sup0_at (f : Int → Int) (n : Nat) : sup0 f n = 0 ∨ ∃ t : Int, 0 ≤ t ∧ t < n ∧ sup0 f n = f t := by
  induction n with
  | zero => exact Or.inl rfl
  | succ n ih =>
    simp only [sup0]
    by_cases h : f n ≤ sup0 f n
    · rw [Int.max_eq_left h]
      rcases ih with ih | ⟨t, a, b, c⟩
      · exact Or.inl ih
      · exact Or.inr ⟨t, a, by omega, c⟩
    · rw [Int.max_eq_right (by omega)]
      exact Or.inr ⟨n, by omega, by omega, rfl⟩
/-- BOTH-less facts of a closed curve -/
def Closed (T D C : Int) (am : Nat → Int) : Prop := am 0 = 0 ∧ ∀ s t : Int, 1 ≤ s → s ≤ t → t < T + D → cval T D C am (s + t) ≤ am s.toNat + am t.toNat
-- powers of two
theorem shl1 {b : Int} (h0 : 0 ≤ b) (h1 : b ≤ 30) : Int32.ofInt 1 <<< (Int32.ofInt b &&& 31) = Int32.ofInt (2 ^ b.toNat) := by
  have h : ∀ n : Fin 31, Int32.ofInt 1 <<< (Int32.ofInt (n.val : Int) &&& 31) = Int32.ofInt (2 ^ n.val) := by decide +kernel
  have := h ⟨b.toNat, by omega⟩
  rw [show (((⟨b.toNat, by omega⟩ : Fin 31).val : Nat) : Int) = b by simp; omega] at this
  exact this
theorem pow_s {b : Int} (h0 : 0 ≤ b) : (2 : Int) ^ (b + 1).toNat = 2 * 2 ^ b.toNat := by
  rw [show (b + 1).toNat = b.toNat + 1 by omega, Int.pow_succ]; omega
theorem pow_le {b : Int} (h0 : 0 ≤ b) (h1 : b ≤ 30) : 1 ≤ (2 : Int) ^ b.toNat ∧ (2 : Int) ^ b.toNat ≤ 1073741824 := by
  have h : ∀ n : Fin 31, 1 ≤ (2 : Int) ^ n.val ∧ (2 : Int) ^ n.val ≤ 1073741824 := by decide +kernel
  exact h ⟨b.toNat, by omega⟩
