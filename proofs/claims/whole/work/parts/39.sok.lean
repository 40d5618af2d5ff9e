/-! ===== every state keeps to its bounds ===== -/
section SK
variable {n : Nat} {S : aS}
theorem SOk.mono (h : SOk n S) : SOk (n + 1) S := by
  obtain ⟨h1, h2, h3, h4, h5, h6, h7⟩ := h
  exact ⟨h1, h2, h3, h4, h5, h6, fun j => ⟨(h7 j).1, by have := (h7 j).2; omega⟩⟩
theorem SOk.la (h : SOk n S) (k : Int) : SOk n (sLa k S) := h
theorem SOk.row (h : SOk n S) {r : Int} {w : Nat → Int} (h0 : 0 ≤ r) (h1 : r ≤ 300) (hb : ∀ i : Int, 0 ≤ i → i < r → 0 ≤ w i.toNat ∧ w i.toNat ≤ 1000000000000 + i * 1000000) : SOk n (sRow r w S) := by
  obtain ⟨h1', h2, h3, h4, h5, h6, h7⟩ := h
  exact ⟨h1', h2, h3, ⟨h0, h1, hb⟩, h5, h6, h7⟩
theorem SOk.run (h : SOk n S) {r : Int} {w : Nat → Int} (hb : StepsOk r w) : SOk n (sRun r w S) := by
  obtain ⟨h1', h2, h3, h4, h5, h6, h7⟩ := h
  exact ⟨h1', h2, h3, h4, hb, h6, h7⟩
theorem SOk.srv (h : SOk n S) {v : Int} (h0 : -1 ≤ v) (h1 : v < sCu S) : SOk n (sSrv v S) := by
  obtain ⟨h1', h2, h3, h4, h5, h6, h7⟩ := h
  exact ⟨h1', h2, h3, h4, h5, ⟨h0, h1⟩, h7⟩
theorem SOk.rf (h : SOk n S) (k : Int) : SOk n (rf k S).2 := h
theorem SOk.rfA (h : SOk n S) (v k : Int) : SOk n (rfA v k S).2 := h
theorem SOk.fi (h : SOk n S) (v : Int) : SOk n (fi v S).2 := h
theorem sok_put (h : SOk n S) (v : Int) : SOk n (oPut v S).2 := by
  unfold oPut
  split
  · exact h.rf _
  · split
    · exact h.rf _
    · obtain ⟨q1, q2, q3⟩ := h.2.2.2.1
      refine (h.row (by omega) (by omega) fun i r1 r2 => ?_).fi _
      by_cases q : i = sRn S
      · subst q; rw [va_up_self]; omega
      · rw [va_up_ne _ _ (by omega)]; exact q3 i r1 (by omega)
theorem drw_ok {mo : Int} (h0 : 0 ≤ mo) (h1 : mo ≤ 1000000) : ∀ (k : Nat) (z r : Int) (w : Nat → Int), 0 ≤ r → (∀ i : Int, 0 ≤ i → i < r → 0 ≤ w i.toNat ∧ w i.toNat ≤ 1000000000000 + i * 1000000) → (drw mo k z r w).1 = r + k ∧ ∀ i : Int, 0 ≤ i → i < r + k → 0 ≤ (drw mo k z r w).2 i.toNat ∧ (drw mo k z r w).2 i.toNat ≤ 1000000000000 + i * 1000000 := by
  intro k
  induction k with
  | zero => intro z r w hr hb; exact ⟨by show r = r + ((0 : Nat) : Int); omega, fun i q1 q2 => hb i q1 (by omega)⟩
  | succ k ih =>
    intro z r w hr hb
    have hm := modB (x := (z * 1103515245 + 12345) % 2147483648 / 256) (y := mo + 1) (by omega)
    have hp : 0 ≤ (if r = 0 then 0 else w (r - 1).toNat) ∧ (if r = 0 then 0 else w (r - 1).toNat) + 1000000 ≤ 1000000000000 + r * 1000000 ∨ r = 0 := by
      by_cases q : r = 0
      · exact Or.inr q
      · left
        rw [if_neg q]
        have := hb (r - 1) (by omega) (by omega)
        omega
    have hv : 0 ≤ (if r = 0 then 0 else w (r - 1).toNat) + ((z * 1103515245 + 12345) % 2147483648 / 256) % (mo + 1) ∧ (if r = 0 then 0 else w (r - 1).toNat) + ((z * 1103515245 + 12345) % 2147483648 / 256) % (mo + 1) ≤ 1000000000000 + r * 1000000 := by
      rcases hp with ⟨q1, q2⟩ | q
      · omega
      · subst q; rw [if_pos rfl]; omega
    have := ih ((z * 1103515245 + 12345) % 2147483648) (r + 1) (va_up w r.toNat ((if r = 0 then 0 else w (r - 1).toNat) + ((z * 1103515245 + 12345) % 2147483648 / 256) % (mo + 1))) (by omega) (fun i q1 q2 => by
      by_cases q : i = r
      · subst q; rw [va_up_self]; exact hv
      · rw [va_up_ne _ _ (by omega)]; exact hb i q1 (by omega))
    rw [drw]
    refine ⟨by rw [this.1]; omega, fun i q1 q2 => this.2 i q1 (by omega)⟩
theorem sok_draw (h : SOk n S) (k z mo : Int) : SOk n (oDraw k z mo S).2 := by
  unfold oDraw
  split
  · exact h.rf _
  · split
    · exact h.rf _
    · obtain ⟨q1, q2, q3⟩ := h.2.2.2.1
      have hd := drw_ok (mo := mo) (by omega) (by omega) k.toNat z (sRn S) (sRw S) q1 q3
      refine (h.row (by rw [hd.1]; omega) (by rw [hd.1]; omega) fun i r1 r2 => hd.2 i r1 (by rw [hd.1] at r2; exact r2)).fi _
theorem sok_drop (h : SOk n S) : SOk n (oDrop S).2 := (h.row (by omega) (by omega) fun i q1 q2 => by omega).fi _
theorem mkT_spec {H : Int → Int} {P c T D C : Int} (h : mkT H P c = some (T, D, C)) : YesCv H P c T D C := by
  by_cases hx : ∃ x : Int × Int × Int, YesCv H P c x.1 x.2.1 x.2.2
  · rw [mkT, dif_pos hx] at h
    have e := Option.some.inj h
    have := Classical.choose_spec hx
    rw [e] at this
    exact this
  · rw [mkT, dif_neg hx] at h; cases h
theorem YesCv.ok {H : Int → Int} {P c T D C : Int} (h : YesCv H P c T D C) (hMo : Mono H) (hP1 : 1 ≤ P) (hP : P ≤ 60) : CvOk T D C (fun k : Nat => H k) := by
  obtain ⟨a, b, e⟩ := h
  have hz := (b.dvd hP1 a).1
  have hD : D ≤ P := Int.le_of_dvd (by omega) (Int.dvd_of_emod_eq_zero hz)
  exact cvok_of hMo b (by omega) e (fun t q1 q2 => by show H ((t.toNat : Nat) : Int) = H t; rw [show ((t.toNat : Nat) : Int) = t by omega])
theorem SOk.add (h : SOk n S) {T D C : Int} {H : Int → Int} (hk : CvOk T D C (fun k : Nat => H k)) (h60 : sCu S < 60) : SOk n (sAdd T D C H S) := by
  obtain ⟨h1', h2, h3, h4, h5, h6, h7⟩ := h
  refine ⟨⟨by show 0 ≤ sCu S + 1; omega, by show sCu S + 1 ≤ 60; omega⟩, fun i q1 q2 => ?_, ⟨Or.inr rfl, fun _ => by show 1 ≤ sCu S + 1; omega⟩, h4, h5, ⟨h6.1, by show sSv S < sCu S + 1; omega⟩, h7⟩
  have q3 : i < sCu S + 1 := q2
  show CvOk (iup (sT S) (sCu S) T i) (iup (sD S) (sCu S) D i) (iup (sC S) (sCu S) C i) (iup (sA S) (sCu S) (fun k : Nat => H k) i)
  by_cases q : i = sCu S
  · subst q; rw [iup_self, iup_self, iup_self, iup_self]; exact hk
  · rw [iup_ne _ _ q, iup_ne _ _ q, iup_ne _ _ q, iup_ne _ _ q]; exact h2 i q1 (by omega)
theorem SOk.made (h : SOk n S) {H : Int → Int} {P c : Int} (hMo : Mono H) (hP1 : 1 ≤ P) (hP : P ≤ 60) (h60 : sCu S < 60) : SOk n (mkO H P c S).2 := by
  unfold mkO
  cases hm : mkT H P c with
  | none => exact h.rf _
  | some x => obtain ⟨T, D, C⟩ := x; exact h.add ((mkT_spec hm).ok hMo hP1 hP) h60
theorem sok_ray (h : SOk n S) (c : Int) : SOk n (oRay c S).2 := by
  unfold oRay
  split
  · exact h.rf _
  · split
    · exact h.rf _
    · exact h.made ⟨fun s hs => Int.mul_nonneg (by omega) hs, fun s u hs hu => Int.mul_le_mul_of_nonneg_left hu (by omega)⟩ (by omega) (by omega) (by omega)
theorem SOk.F (h : SOk n S) {f : Int} (hf : isC S f) : Mono (sF S f) := cval_M (h.2.1 f hf.1 hf.2)
theorem sok_times (h : SOk n S) (f k : Int) : SOk n (oTimes f k S).2 := by
  unfold oTimes
  by_cases q : (¬ isC S f ∨ (k < 0 ∨ 1000 < k))
  · rw [cond_t q]; exact h.rf _
  · rw [cond_f q]
    have hf : isC S f := Classical.byContradiction fun z => q (Or.inl z)
    split
    · exact h.rf _
    · have hc := h.2.1 f hf.1 hf.2
      exact h.made (times_mono (by omega) (h.F hf)) hc.2.2.1 hc.2.2.2.1 (by omega)
theorem sok_shift (h : SOk n S) (f k : Int) : SOk n (oShift f k S).2 := by
  unfold oShift
  by_cases q : (¬ isC S f ∨ (k < 0 ∨ 200 < k))
  · rw [cond_t q]; exact h.rf _
  · rw [cond_f q]
    have hf : isC S f := Classical.byContradiction fun z => q (Or.inl z)
    split
    · exact h.rf _
    · have hc := h.2.1 f hf.1 hf.2
      exact h.made (shift_mono (h.F hf)) hc.2.2.1 hc.2.2.2.1 (by omega)
theorem sok_of (h : SOk n S) (w f g : Int) : SOk n (oOf w f g S).2 := by
  unfold oOf
  by_cases q : ((w < 0 ∨ 5 < w) ∨ ¬ isC S f ∨ ¬ isC S g)
  · rw [cond_t q]; exact h.rf _
  · rw [cond_f q]
    have hf : isC S f := Classical.byContradiction fun z => q (Or.inr (Or.inl z))
    have hg : isC S g := Classical.byContradiction fun z => q (Or.inr (Or.inr z))
    split
    · exact h.rf _
    · split
      · exact h.rf _
      · split
        · exact h.rf _
        · rename_i _ hp _
          have hz := lcmS_f (h.2.1 f hf.1 hf.2).2.2.1 (h.2.1 g hg.1 hg.2).2.2.1 hp
          exact h.made (way_mono (h.F hf) (h.F hg) w _) hz.1 hz.2.1 (by omega)
theorem sok_curve (h : SOk n S) (st gn : Int) : SOk n (oCurve st gn S).2 := by
  unfold oCurve
  split
  · exact h.rf _
  · split
    · rename_i hg
      split
      · exact h.rf _
      · obtain ⟨s6, s7, s8⟩ := h.2.2.2.1
        have hro : RowOk (sRn S) st gn (sRw S) := ⟨by omega, by omega, hg.1, s7, by omega, by omega, fun i q1 q2 => by have := s8 i q1 q2; omega, hg.2.1, hg.2.2⟩
        cases hm : mkT (cval (sRn S - st) st gn (sRw S)) st gn with
        | none => exact h.rf _
        | some x =>
          obtain ⟨T, D, C⟩ := x
          exact (h.add ((mkT_spec hm).ok (row_M hro) (by omega) (by omega)) (by omega)).row (Int.le_refl 0) (by omega) fun i q1 q2 => by omega
    · exact h.rf _
theorem sok_undo (h : SOk n S) : SOk n (oUndo S).2 := by
  unfold oUndo
  split
  · exact h.rf _
  · obtain ⟨h1, h2, h3, h4, h5, h6, h7⟩ := h
    have hm := h3.2 (by have := h3.1; omega)
    refine ⟨⟨by show 0 ≤ sCu S - 1; omega, by show sCu S - 1 ≤ 60; omega⟩, fun i q1 q2 => h2 i q1 (by have q3 : i < sCu S - 1 := q2; omega), ⟨Or.inl rfl, fun z => by have z1 : (0 : Int) = 1 := z; omega⟩, h4, h5, ?_, h7⟩
    show -1 ≤ (if sSv S = sCu S - 1 then -1 else sSv S) ∧ (if sSv S = sCu S - 1 then -1 else sSv S) < sCu S - 1
    split <;> omega
end SK
