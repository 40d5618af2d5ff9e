/-! ===== every state keeps to its bounds: the rest ===== -/
section SK2
variable {n : Nat} {S : aS}
theorem sok_come (h : SOk n S) (a : Int) : SOk n (oCome a S).2 := by
  unfold oCome
  split
  · exact h.rf _
  · split
    · exact h.rf _
    · obtain ⟨q1, q2, q3⟩ := h.2.2.2.2.1
      refine (h.run ⟨by omega, by omega, fun k r1 r2 => ?_⟩).fi _
      by_cases q : k = sSn S
      · subst q; rw [va_up_self]; omega
      · rw [va_up_ne _ _ (by omega)]; exact q3 k r1 (by omega)
theorem sok_stop (h : SOk n S) : SOk n (oStop S).2 := (h.run ⟨by omega, by omega, fun k q1 q2 => by omega⟩).fi _
theorem sok_hardest (h : SOk n S) (f k : Int) : SOk n (oHardest f k S).2 := by
  unfold oHardest
  by_cases q : (¬ isC S f ∨ (k < 0 ∨ 60 < k) ∨ ¬ ∀ t : Int, 1 ≤ t → t ≤ k → hstep (sF S f) t ≤ 1000000000)
  · rw [cond_t q]; exact h.rf _
  · rw [cond_f q]
    have hf : isC S f := Classical.byContradiction fun z => q (Or.inl z)
    have hs : ∀ t : Int, 1 ≤ t → t ≤ k → hstep (sF S f) t ≤ 1000000000 := Classical.byContradiction fun z => q (Or.inr (Or.inr z))
    have hk : ¬ (k < 0 ∨ 60 < k) := fun z => q (Or.inr (Or.inl z))
    refine (h.run ⟨by omega, by omega, fun j r1 r2 => ?_⟩).fi _
    show 0 ≤ hstep (sF S f) ((j.toNat : Nat) + 1) ∧ hstep (sF S f) ((j.toNat : Nat) + 1) ≤ 1000000000
    rw [show ((j.toNat : Nat) : Int) = j by omega]
    exact ⟨hstep_nn (h.F hf) (by omega), hs (j + 1) (by omega) (by omega)⟩
theorem sok_serve (h : SOk n S) (g : Int) : SOk n (oServe g S).2 := by
  unfold oServe
  by_cases q : ¬ isC S g
  · rw [cond_t q]; exact h.rf _
  · rw [cond_f q]
    have hg : isC S g := Classical.byContradiction q
    exact (h.srv (by have := hg.1; omega) hg.2).fi _
theorem sok_clear (h : SOk n S) : SOk n (oClear S).2 := by
  obtain ⟨h1, h2, h3, h4, h5, h6, h7⟩ := h
  refine ⟨⟨Int.le_refl 0, by show (0 : Int) ≤ 60; omega⟩, fun i q1 q2 => by have q3 : i < 0 := q2; omega, ⟨Or.inl rfl, fun z => by have z1 : (0 : Int) = 1 := z; omega⟩, ⟨Int.le_refl 0, by show (0 : Int) ≤ 300; omega, fun i q1 q2 => by have q3 : i < 0 := q2; omega⟩, ⟨Int.le_refl 0, by show (0 : Int) ≤ 60; omega, fun k q1 q2 => by have q3 : k < 0 := q2; omega⟩, ⟨Int.le_refl (-1), by show (-1 : Int) < 0; omega⟩, h7⟩
theorem mk1_b {g : Nat → Int} {b j : Nat} (h : 0 ≤ g j ∧ g j ≤ (n : Int)) : 0 ≤ mk1 g b j ∧ mk1 g b j ≤ ((n + 1 : Nat) : Int) := by
  unfold mk1
  by_cases q : j = b
  · subst q; rw [va_up_self]; omega
  · rw [va_up_ne _ _ q]; omega
theorem tlAt_b {g : Nat → Int} {k : Int} (h : ∀ j, 0 ≤ g j ∧ g j ≤ (n : Int)) : ∀ j, 0 ≤ tlAt k g j ∧ tlAt k g j ≤ ((n + 1 : Nat) : Int) := fun j => by
  unfold tlAt
  by_cases q : k = 1
  · rw [if_pos q]
    by_cases z : j = 2
    · subst z
      refine mk1_b ?_
      show 0 ≤ va_up g 1 (g 1 + 1) 2 ∧ va_up g 1 (g 1 + 1) 2 ≤ (n : Int)
      rw [va_up_ne _ _ (by omega)]; exact h 2
    · have e : mk1 (mk1 g 1) 2 j = mk1 g 1 j := va_up_ne _ _ z
      rw [e]; exact mk1_b (h j)
  · rw [if_neg q]; exact mk1_b (h j)
theorem sok_at (h : SOk n S) (f t : Int) : SOk (n + 1) (oAt f t S).2 := by
  unfold oAt
  by_cases q : (¬ isC S f ∨ (t < 0 ∨ 1000000000 < t))
  · rw [cond_t q]; exact h.mono.rfA _ _
  · rw [cond_f q]
    obtain ⟨h1, h2, h3, h4, h5, h6, h7⟩ := h
    exact ⟨h1, h2, h3, h4, h5, h6, tlAt_b h7⟩
theorem cond_2 {P : Prop} {a b : Int × aS} (ha : SOk n a.2) (hb : SOk n b.2) : SOk n (cond P a b).2 := by
  by_cases q : P
  · rw [cond_t q]; exact ha
  · rw [cond_f q]; exact hb
theorem ite_2 {P : Prop} [Decidable P] {a b : Int × aS} (ha : SOk n a.2) (hb : SOk n b.2) : SOk n (if P then a else b).2 := by
  split <;> assumption
theorem sok_about (h : SOk n S) (f w : Int) : SOk n (oAbout f w S).2 := cond_2 h h
theorem sok_rate (h : SOk n S) (f w : Int) : SOk n (oRate f w S).2 := cond_2 h h
theorem sok_unlike (h : SOk n S) (f g : Int) : SOk n (oUnlike f g S).2 := cond_2 h (ite_2 h h)
theorem sok_below (h : SOk n S) (f g : Int) : SOk n (oBelow f g S).2 := cond_2 h (ite_2 h h)
theorem sok_first (h : SOk n S) (f v : Int) : SOk n (oFirst f v S).2 := cond_2 h (ite_2 h h)
theorem sok_heap (h : SOk n S) (f g : Int) : SOk n (oHeap f g S).2 := cond_2 h (ite_2 h (ite_2 h h))
theorem sok_wait (h : SOk n S) (f g : Int) : SOk n (oWait f g S).2 := cond_2 h (ite_2 h (ite_2 h (ite_2 h h)))
theorem sok_moved (h : SOk n S) (sd t : Int) : SOk n (oMoved sd t S).2 := ite_2 h (ite_2 h (ite_2 h (ite_2 h h)))
theorem sok_late (h : SOk n S) (t : Int) : SOk n (oLate t S).2 := ite_2 h (ite_2 h (ite_2 h h))
theorem sok_mostHeld (h : SOk n S) : SOk n (oMostHeld S).2 := ite_2 h h
theorem sok_mostLate (h : SOk n S) : SOk n (oMostLate S).2 := ite_2 h (ite_2 h h)
theorem sok_keeps (h : SOk n S) (f : Int) : SOk n (oKeeps f S).2 := cond_2 h h
theorem sok_count (h : SOk n S) (w : Int) : SOk n (oCount w S).2 := h
theorem sok_trace (h : SOk n S) (b : Int) : SOk n (oTrace b S).2 := h
theorem sok_status (h : SOk n S) : SOk n (oStatus S).2 := h
end SK2
/-- the state of a new object -/
def S0 : aS := (0, fun _ => 0, fun _ => 0, fun _ => 0, fun _ _ => 0, 0, 0, fun _ => 0, 0, fun _ => 0, -1, fun _ => 0, 0)
theorem sok_0 : SOk 0 S0 := by
  refine ⟨⟨Int.le_refl 0, by show (0 : Int) ≤ 60; omega⟩, fun i q1 q2 => by have q3 : i < 0 := q2; omega, ⟨Or.inl rfl, fun z => by have z1 : (0 : Int) = 1 := z; omega⟩, ⟨Int.le_refl 0, by show (0 : Int) ≤ 300; omega, fun i q1 q2 => by have q3 : i < 0 := q2; omega⟩, ⟨Int.le_refl 0, by show (0 : Int) ≤ 60; omega, fun k q1 q2 => by have q3 : k < 0 := q2; omega⟩, ⟨Int.le_refl (-1), by show (-1 : Int) < 0; omega⟩, fun j => ⟨Int.le_refl 0, Int.le_refl 0⟩⟩
