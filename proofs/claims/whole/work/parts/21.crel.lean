/-! ===== the cells tell the mathematical state ===== -/
/-- a cell of 'curves' tells a curve -/
def CvE (h : aH) (hi : Nat) (r : Option Nat) (T D C : Int) (A : Nat → Int) : Prop := ∃ (c ci a : Nat) (am : Nat → Int) (ld : Int), r = some c ∧ CvAt h c ci a T D C am ld ∧ KindOk ci T D C am ld ∧ (∀ t : Int, 0 ≤ t → t < T + D → am t.toNat = A t.toNat) ∧ hi ≤ c ∧ hi ≤ a
theorem CvE.keep {h : aH} {hi b : Nat} {r : Option Nat} {T D C : Int} {A : Nat → Int} {e : aE} (k : CvE h hi r T D C A) (hb : b < hi) : CvE (hset h b e) hi r T D C A := by
  obtain ⟨c, ci, a, am, ld, h1, h2, h3, h4, h5, h6⟩ := k
  exact ⟨c, ci, a, am, ld, h1, h2.keep (by omega) (by omega), h3, h4, h5, h6⟩
theorem CvE.on {h h' : aH} {hi : Nat} {r : Option Nat} {T D C : Int} {A : Nat → Int} (k : CvE h hi r T D C A) (hb : ∀ b : Nat, hi ≤ b → (h b).isSome = true → h' b = h b) : CvE h' hi r T D C A := by
  obtain ⟨c, ci, a, am, ld, h1, h2, h3, h4, h5, h6⟩ := k
  exact ⟨c, ci, a, am, ld, h1, ⟨(hb c h5 (by rw [h2.1]; rfl)).trans h2.1, (hb a h6 (by rw [h2.2.1]; rfl)).trans h2.2.1, h2.2.2⟩, h3, h4, h5, h6⟩
def CRel (x ac ar rr cr ta tm mk md on ot lo hi : Nat) (S : aS) (h : aH) : Prop :=
  (x < ac ∧ ac < ar ∧ ar < rr ∧ rr < cr ∧ cr < ta ∧ ta < tm ∧ tm < mk ∧ mk < md ∧ md < on ∧ on < ot ∧ ot < lo ∧ lo < hi ∧ (h (hi - 1)).isSome = true) ∧
  h x = some (eO 8 [vA ac, vI (sCu S), vI (sMu S), vA ar, vI (sRn S), vA rr, vI (sSv S), vA ta, vA mk, vI (sLt S)]) ∧
  (∃ fc : Nat → Option Nat, h ac = some (eR 60 fc) ∧ ∀ i : Int, 0 ≤ i → i < sCu S → CvE h hi (fc i.toNat) (sT S i) (sD S i) (sC S i) (sA S i)) ∧
  (∃ fr : Nat → Int, h ar = some (eJ 300 fr) ∧ ∀ t : Int, 0 ≤ t → t < sRn S → fr t.toNat = sRw S t.toNat) ∧
  (∃ cm : Nat → Int, h rr = some (eO 5 [vA cr, vI (sSn S)]) ∧ h cr = some (eJ 61 cm) ∧ ∀ k : Int, 0 ≤ k → k ≤ sSn S → cm k.toNat = psum (sSm S) k.toNat) ∧
  (∃ g : Nat → Int, h ta = some (eO 7 [vA tm]) ∧ h tm = some (eI 5 g) ∧ ∀ b : Nat, g b = sTl S b) ∧
  h mk = some (eO 3 [vA md, vA on, vA ot]) ∧ (∃ g : Nat → Int, h md = some (eJ 600 g)) ∧ (∃ g : Nat → Int, h on = some (eJ 600 g)) ∧ ∃ g : Nat → Int, h ot = some (eJ 600 g)
/-- what is between lo and hi stays, nothing goes -/
def Fr (lo hi : Nat) (h h' : aH) : Prop := (∀ b : Nat, lo ≤ b → b < hi → h' b = h b) ∧ ∀ b : Nat, (h b).isSome = true → (h' b).isSome = true
theorem Fr.refl {lo hi : Nat} {h : aH} : Fr lo hi h h := ⟨fun _ _ _ => rfl, fun _ q => q⟩
theorem Fr.trans {lo hi : Nat} {h h1 h2 : aH} (a : Fr lo hi h h1) (b : Fr lo hi h1 h2) : Fr lo hi h h2 := ⟨fun c q1 q2 => (b.1 c q1 q2).trans (a.1 c q1 q2), fun c q => b.2 c (a.2 c q)⟩
theorem Fr.set {lo hi b : Nat} {h h1 : aH} {e : aE} (a : Fr lo hi h h1) (hb : b < lo) : Fr lo hi h (hset h1 b e) := by
  refine ⟨fun c q1 q2 => by rw [hset_ne _ _ (by omega)]; exact a.1 c q1 q2, fun c q => ?_⟩
  by_cases z : c = b
  · subst z; rw [hset_eq]; rfl
  · rw [hset_ne _ _ z]; exact a.2 c q
def CMk (x ac ar rr cr ta tm mk md on ot lo hi : Nat) : Prop := True
section CR
variable {x ac ar rr cr ta tm mk md on ot lo hi : Nat} {S : aS} {h : aH}
theorem CRel.scr {h1 : aH} (hC : CRel x ac ar rr cr ta tm mk md on ot lo hi S h) (k : Scr mk md on ot h h1) : CRel x ac ar rr cr ta tm mk md on ot lo hi S h1 ∧ Fr lo hi h h1 := by
  obtain ⟨⟨o1, o2, o3, o4, o5, o6, o7, o8, o9, oA, oB, oC, oD⟩, hx, ⟨fc, hac, hcs⟩, ⟨fr, har, hrw⟩, ⟨cm, hrr, hcr, hcm⟩, ⟨gt, hta, htm, htl⟩, hmk, ⟨gm, hmd⟩, ⟨g1, hon⟩, ⟨g2, hot⟩⟩ := hC
  obtain ⟨a, b, c, k1, k2, k3⟩ := k
  refine ⟨⟨⟨o1, o2, o3, o4, o5, o6, o7, o8, o9, oA, oB, oC, by rw [k3]; exact oD⟩, (k2 x (by omega) (by omega) (by omega)).trans hx, ⟨fc, (k2 ac (by omega) (by omega) (by omega)).trans hac, fun i q1 q2 => (hcs i q1 q2).on fun b q _ => k2 b (by omega) (by omega) (by omega)⟩, ⟨fr, (k2 ar (by omega) (by omega) (by omega)).trans har, hrw⟩, ⟨cm, (k2 rr (by omega) (by omega) (by omega)).trans hrr, (k2 cr (by omega) (by omega) (by omega)).trans hcr, hcm⟩, ⟨gt, (k2 ta (by omega) (by omega) (by omega)).trans hta, (k2 tm (by omega) (by omega) (by omega)).trans htm, htl⟩, k1.1, ⟨_, k1.2.1⟩, ⟨_, k1.2.2.1⟩, ⟨_, k1.2.2.2.1⟩⟩, fun b q1 q2 => k2 b (by omega) (by omega) (by omega), fun b q => by rw [k3]; exact q⟩
/-- a new cell behind all -/
theorem CRel.push {q : Nat} {e : aE} (hC : CRel x ac ar rr cr ta tm mk md on ot lo hi S h) (hq : Aft h q) : CRel x ac ar rr cr ta tm mk md on ot lo hi S (hset h q e) ∧ Fr lo hi h (hset h q e) ∧ hi ≤ q := by
  obtain ⟨⟨o1, o2, o3, o4, o5, o6, o7, o8, o9, oA, oB, oC, oD⟩, hx, ⟨fc, hac, hcs⟩, ⟨fr, har, hrw⟩, ⟨cm, hrr, hcr, hcm⟩, ⟨gt, hta, htm, htl⟩, hmk, ⟨gm, hmd⟩, ⟨g1, hon⟩, ⟨g2, hot⟩⟩ := hC
  have hq1 := hq.2 _ oD
  have hne : ∀ b : Nat, (h b).isSome = true → hset h q e b = h b := fun b z => hset_ne _ _ (by have := hq.2 b z; omega)
  refine ⟨⟨⟨o1, o2, o3, o4, o5, o6, o7, o8, o9, oA, oB, oC, by rw [hne _ oD]; exact oD⟩, (hne x (by rw [hx]; rfl)).trans hx, ⟨fc, (hne ac (by rw [hac]; rfl)).trans hac, fun i q1 q2 => (hcs i q1 q2).on fun b _ z => hne b z⟩, ⟨fr, (hne ar (by rw [har]; rfl)).trans har, hrw⟩, ⟨cm, (hne rr (by rw [hrr]; rfl)).trans hrr, (hne cr (by rw [hcr]; rfl)).trans hcr, hcm⟩, ⟨gt, (hne ta (by rw [hta]; rfl)).trans hta, (hne tm (by rw [htm]; rfl)).trans htm, htl⟩, (hne mk (by rw [hmk]; rfl)).trans hmk, ⟨gm, (hne md (by rw [hmd]; rfl)).trans hmd⟩, ⟨g1, (hne on (by rw [hon]; rfl)).trans hon⟩, ⟨g2, (hne ot (by rw [hot]; rfl)).trans hot⟩⟩, ⟨fun b q1 q2 => hset_ne _ _ (by omega), fun b z => by rw [hne b z]; exact z⟩, by omega⟩
theorem CRel.newc {h' : aH} {H : Int → Int} {T D C : Int} {r : Option aV} (hC : CRel x ac ar rr cr ta tm mk md on ot lo hi S h) (k : NewCv h h' H T D C r) : ∃ c : Nat, r = some (vA c) ∧ CRel x ac ar rr cr ta tm mk md on ot lo hi S h' ∧ Fr lo hi h h' ∧ CvE h' hi (some c) T D C (fun j => H j) := by
  obtain ⟨a, c, ci, am, ld, ha, hc, rfl, rfl, hci, hk, hok, ht⟩ := k
  obtain ⟨p1, p2, p3⟩ := hC.push (e := eJ (T + D).toNat am) ha
  obtain ⟨p4, p5, p6⟩ := p1.push (e := eO ci (cvF ci T D C a ld)) hc
  refine ⟨c, rfl, p4, p2.trans p5, c, ci, a, am, ld, rfl, ⟨hset_eq _ _ _, ?_, hci⟩, hk, fun t q1 q2 => ?_, p6, p3⟩
  · rw [hset_ne _ _ (by have := hc.2 a (by rw [hset_eq]; rfl); omega)]; exact hset_eq _ _ _
  · show am t.toNat = H ((t.toNat : Nat) : Int)
    rw [ht t q1 q2, show ((t.toNat : Nat) : Int) = t by omega]
/-- the curve of a number -/
theorem CRel.curve (hC : CRel x ac ar rr cr ta tm mk md on ot lo hi S h) {f : Int} (hf : isC S f) : ∃ fc : Nat → Option Nat, h ac = some (eR 60 fc) ∧ CvE h hi (fc f.toNat) (sT S f) (sD S f) (sC S f) (sA S f) := by
  obtain ⟨-, -, ⟨fc, hac, hcs⟩, -⟩ := hC
  exact ⟨fc, hac, hcs f hf.1 hf.2⟩
end CR
theorem CvOk.congr {T D C : Int} {am A : Nat → Int} (ok : CvOk T D C A) (h : ∀ t : Int, 0 ≤ t → t < T + D → am t.toNat = A t.toNat) : CvOk T D C am := by
  obtain ⟨hT0, hT2, hD0, hD6, hC0, hC1, hA, hM, hW⟩ := ok
  refine ⟨hT0, hT2, hD0, hD6, hC0, hC1, fun i q1 q2 => by rw [h i q1 q2]; exact hA i q1 q2, fun i q1 q2 => by rw [h i q1 (by omega), h (i + 1) (by omega) q2]; exact hM i q1 q2, ?_⟩
  rw [h (T + D - 1) (by omega) (by omega), h T hT0 (by omega)]; exact hW
theorem cval_congr {T D C : Int} {am A : Nat → Int} (hT : 0 ≤ T) (hD : 1 ≤ D) (h : ∀ t : Int, 0 ≤ t → t < T + D → am t.toNat = A t.toNat) : cval T D C am = cval T D C A := by
  funext t
  by_cases q : t < T + D
  · rw [cval_lt q, cval_lt q]
    by_cases q0 : 0 ≤ t
    · exact h t q0 q
    · have := h 0 (Int.le_refl 0) (by omega)
      rw [show t.toNat = (0 : Int).toNat by omega]; exact this
  · rw [cval, if_neg q, cval, if_neg q]
    have m0 := Int.emod_nonneg (t - T) (show D ≠ 0 by omega)
    have m1 := Int.emod_lt_of_pos (t - T) (show 0 < D by omega)
    rw [h (T + (t - T) % D) (by omega) (by omega)]
theorem kindS_congr {T D C : Int} {am A : Nat → Int} (hT : 0 ≤ T) (hD : 1 ≤ D) (h : ∀ t : Int, 0 ≤ t → t < T + D → am t.toNat = A t.toNat) : kindS T D C am = kindS T D C A := by
  have h0 : am 0 = A 0 := h 0 (by omega) (by omega)
  have hT1 := h T hT (by omega)
  have c1 : (D = 1 ∧ T = 1 ∧ A 0 = 0 ∧ C < am 1) ↔ (D = 1 ∧ T = 1 ∧ A 0 = 0 ∧ C < A 1) := by
    by_cases q : T = 1
    · have h1 : am 1 = A 1 := h 1 (by omega) (by omega)
      rw [h1]
    · constructor <;> exact fun z => absurd z.2.1 q
  have c4 : (1 < D ∧ T = 0 ∧ 0 < C ∧ am (D - 1).toNat = 0) ↔ (1 < D ∧ T = 0 ∧ 0 < C ∧ A (D - 1).toNat = 0) := by
    by_cases q : 1 < D
    · rw [h (D - 1) (by omega) (by omega)]
    · constructor <;> exact fun z => absurd z.1 q
  unfold kindS
  simp only [h0, hT1, c1, c4]
theorem Closed_congr {T D C : Int} {am A : Nat → Int} (hT : 0 ≤ T) (hD : 1 ≤ D) (h : ∀ t : Int, 0 ≤ t → t < T + D → am t.toNat = A t.toNat) : Closed T D C am ↔ Closed T D C A := by
  have h0 : am 0 = A 0 := h 0 (by omega) (by omega)
  unfold Closed
  rw [cval_congr hT hD h, h0]
  constructor
  · rintro ⟨a, b⟩
    refine ⟨a, fun s t q1 q2 q3 => ?_⟩
    rw [← h s (by omega) (by omega), ← h t (by omega) (by omega)]; exact b s t q1 q2 q3
  · rintro ⟨a, b⟩
    refine ⟨a, fun s t q1 q2 q3 => ?_⟩
    rw [h s (by omega) (by omega), h t (by omega) (by omega)]; exact b s t q1 q2 q3
