/-! ===== FlowCurvesModel: its cells; what it reckons with ===== -/
def MRel (m b1 b2 b3 b4 b5 b6 b7 b8 b9 lo hi : Nat) (S : aS) (h : aH) : Prop :=
  (lo ≤ m ∧ m < b1 ∧ b1 < b2 ∧ b2 < b3 ∧ b3 < b4 ∧ b4 < b5 ∧ b5 < b6 ∧ b6 < b7 ∧ b7 < b8 ∧ b8 < b9 ∧ b9 < hi) ∧
  h m = some (eO 9 [vI ((sCu S)), vA b1, vA b2, vA b3, vA b4, vA b5, vI ((sMu S)), vA b6, vI ((sRn S)), vA b7, vI ((sSn S)), vI ((sSv S)), vA b8, vI ((sLt S)), vA b9]) ∧
  (∃ (gT gD gC gK gA : Nat → Int), h b1 = some (eI 60 gT) ∧ h b2 = some (eI 60 gD) ∧ h b3 = some (eJ 60 gC) ∧ h b4 = some (eI 60 gK) ∧ h b5 = some (eJ 18000 gA) ∧ ∀ i : Int, 0 ≤ i → i < sCu S → gT i.toNat = sT S i ∧ gD i.toNat = sD S i ∧ gC i.toNat = sC S i ∧ gK i.toNat = sK S i ∧ ∀ t : Int, 0 ≤ t → t < sT S i + sD S i → gA (300 * i + t).toNat = sA S i t.toNat) ∧
  (∃ fr : Nat → Int, h b6 = some (eJ 300 fr) ∧ ∀ t : Int, 0 ≤ t → t < sRn S → fr t.toNat = sRw S t.toNat) ∧
  (∃ sm : Nat → Int, h b7 = some (eJ 60 sm) ∧ ∀ k : Int, 0 ≤ k → k < sSn S → sm k.toNat = sSm S k.toNat) ∧
  (∃ g : Nat → Int, h b8 = some (eI 5 g) ∧ ∀ b : Nat, g b = sTl S b) ∧ ∃ g : Nat → Int, h b9 = some (eJ 760 g)
def MFr (lo hi : Nat) (h h' : aH) : Prop := (∀ b : Nat, b < lo ∨ hi ≤ b → h' b = h b) ∧ ∀ b : Nat, (h b).isSome = true → (h' b).isSome = true
theorem MFr.refl {lo hi : Nat} {h : aH} : MFr lo hi h h := ⟨fun _ _ => rfl, fun _ q => q⟩
theorem MFr.trans {lo hi : Nat} {h h1 h2 : aH} (a : MFr lo hi h h1) (b : MFr lo hi h1 h2) : MFr lo hi h h2 := ⟨fun c q => (b.1 c q).trans (a.1 c q), fun c q => b.2 c (a.2 c q)⟩
theorem MFr.set {lo hi b : Nat} {h h1 : aH} {e : aE} (a : MFr lo hi h h1) (hb : lo ≤ b) (hb2 : b < hi) : MFr lo hi h (hset h1 b e) := by
  refine ⟨fun c q => by rw [hset_ne _ _ (by omega)]; exact a.1 c q, fun c q => ?_⟩
  by_cases z : c = b
  · subst z; rw [hset_eq]; rfl
  · rw [hset_ne _ _ z]; exact a.2 c q
def MOut (m b1 b2 b3 b4 b5 b6 b7 b8 b9 lo hi : Nat) (h : aH) (v : Int → aV) (res : Int × aS) : Option aV → aH → Prop := fun r h' => r = some (v res.1) ∧ MRel m b1 b2 b3 b4 b5 b6 b7 b8 b9 lo hi res.2 h' ∧ MFr lo hi h h'
theorem outM {m b1 b2 b3 b4 b5 b6 b7 b8 b9 lo hi : Nat} {h h' : aH} {v : Int → aV} {res : Int × aS} {k : Int} {S2 : aS} (e : res = (k, S2)) (hC : MRel m b1 b2 b3 b4 b5 b6 b7 b8 b9 lo hi S2 h') (hF : MFr lo hi h h') : MOut m b1 b2 b3 b4 b5 b6 b7 b8 b9 lo hi h v res (some (v k)) h' := by
  subst e; exact ⟨rfl, hC, hF⟩
theorem MRel.fr {m b1 b2 b3 b4 b5 b6 b7 b8 b9 lo hi : Nat} {S : aS} {h h' : aH} (hM : MRel m b1 b2 b3 b4 b5 b6 b7 b8 b9 lo hi S h) (f : Fr lo hi h h') : MRel m b1 b2 b3 b4 b5 b6 b7 b8 b9 lo hi S h' := by
  obtain ⟨⟨o0, o1, o2, o3, o4, o5, o6, o7, o8, o9, oA⟩, hm, ⟨gT, gD, gC, gK, gA, hb1, hb2, hb3, hb4, hb5, hcu⟩, ⟨fr, hb6, hrw⟩, ⟨sm, hb7, hsm⟩, ⟨g8, hb8, htl⟩, ⟨gw, hb9⟩⟩ := id hM
  exact ⟨⟨o0, o1, o2, o3, o4, o5, o6, o7, o8, o9, oA⟩, (f.1 m (by omega) (by omega)).trans hm, ⟨gT, gD, gC, gK, gA, (f.1 _ (by omega) (by omega)).trans hb1, (f.1 _ (by omega) (by omega)).trans hb2, (f.1 _ (by omega) (by omega)).trans hb3, (f.1 _ (by omega) (by omega)).trans hb4, (f.1 _ (by omega) (by omega)).trans hb5, hcu⟩, ⟨fr, (f.1 _ (by omega) (by omega)).trans hb6, hrw⟩, ⟨sm, (f.1 _ (by omega) (by omega)).trans hb7, hsm⟩, ⟨g8, (f.1 _ (by omega) (by omega)).trans hb8, htl⟩, ⟨gw, (f.1 _ (by omega) (by omega)).trans hb9⟩⟩
theorem CRel.fr {x ac ar rr cr ta tm mk md on ot lo hi : Nat} {S : aS} {h h' : aH} (hC : CRel x ac ar rr cr ta tm mk md on ot lo hi S h) (f : MFr lo hi h h') : CRel x ac ar rr cr ta tm mk md on ot lo hi S h' := by
  obtain ⟨⟨o1, o2, o3, o4, o5, o6, o7, o8, o9, oA, oB, oC, oD⟩, hx, ⟨fc, hac, hcs⟩, ⟨fr, har, hrw⟩, ⟨cm, hrr, hcr, hcm⟩, ⟨gt, hta, htm, htl⟩, hmk, ⟨gm, hmd⟩, ⟨g1, hon⟩, ⟨g2, hot⟩⟩ := hC
  exact ⟨⟨o1, o2, o3, o4, o5, o6, o7, o8, o9, oA, oB, oC, f.2 _ oD⟩, (f.1 _ (by omega)).trans hx, ⟨fc, (f.1 _ (by omega)).trans hac, fun i q1 q2 => (hcs i q1 q2).on fun b q _ => f.1 b (Or.inr q)⟩, ⟨fr, (f.1 _ (by omega)).trans har, hrw⟩, ⟨cm, (f.1 _ (by omega)).trans hrr, (f.1 _ (by omega)).trans hcr, hcm⟩, ⟨gt, (f.1 _ (by omega)).trans hta, (f.1 _ (by omega)).trans htm, htl⟩, (f.1 _ (by omega)).trans hmk, ⟨_, (f.1 _ (by omega)).trans hmd⟩, ⟨_, (f.1 _ (by omega)).trans hon⟩, ⟨_, (f.1 _ (by omega)).trans hot⟩⟩
set_option maxRecDepth 100000 in
set_option maxHeartbeats 4000000 in
theorem k_X10_refuse {G : aG} {d : Nat} {m b1 b2 b3 b4 b5 b6 b7 b8 b9 lo hi : Nat} {S : aS} {h : aH} (hM : MRel m b1 b2 b3 b4 b5 b6 b7 b8 b9 lo hi S h) {k : Int} : MC G mX10_refuse d 0 0 [vA m, vI k] h (fun r' h' => r' = some (vI k) ∧ MRel m b1 b2 b3 b4 b5 b6 b7 b8 b9 lo hi (sLa k S) h' ∧ MFr lo hi h h') := by
  obtain ⟨⟨o0, o1, o2, o3, o4, o5, o6, o7, o8, o9, oA⟩, hm, ⟨gT, gD, gC, gK, gA, hb1, hb2, hb3, hb4, hb5, hcu⟩, ⟨fr, hb6, hrw⟩, ⟨sm, hb7, hsm⟩, ⟨g8, hb8, htl⟩, ⟨gw, hb9⟩⟩ := id hM
  refine MC.of (by decide) (Nat.le_of_ble_eq_true rfl) (fun ok okh => ?_)
  show EX G mX10_refuse d 0 0 _ 0 [(0, vA m), (1, vI k)] [] h 0 0
  refine x_aload_n 0 dX10_refuse_0 rfl rfl ?_
  refine x_iload_n 1 dX10_refuse_1 rfl rfl ?_
  refine x_put 13 dX10_refuse_2 pu_X10_42 hm rfl rfl (Nat.le_of_ble_eq_true rfl) ?_
  refine x_iload_n 1 dX10_refuse_5 rfl rfl ?_
  exact x_ireturn dX10_refuse_6 rfl (by decide) (by decide) ⟨rfl, ⟨⟨o0, o1, o2, o3, o4, o5, o6, o7, o8, o9, oA⟩, (hset_eq _ _ _), ⟨gT, gD, gC, gK, gA, ((hset_ne _ _ (by omega)).trans hb1), ((hset_ne _ _ (by omega)).trans hb2), ((hset_ne _ _ (by omega)).trans hb3), ((hset_ne _ _ (by omega)).trans hb4), ((hset_ne _ _ (by omega)).trans hb5), hcu⟩, ⟨fr, ((hset_ne _ _ (by omega)).trans hb6), hrw⟩, ⟨sm, ((hset_ne _ _ (by omega)).trans hb7), hsm⟩, ⟨g8, ((hset_ne _ _ (by omega)).trans hb8), htl⟩, ⟨_, ((hset_ne _ _ (by omega)).trans hb9)⟩⟩, (MFr.set MFr.refl (by omega) (by omega))⟩
set_option maxRecDepth 100000 in
set_option maxHeartbeats 4000000 in
theorem k_X10_fine {G : aG} {d : Nat} {m b1 b2 b3 b4 b5 b6 b7 b8 b9 lo hi : Nat} {S : aS} {h : aH} (hM : MRel m b1 b2 b3 b4 b5 b6 b7 b8 b9 lo hi S h) {k : Int} : MC G mX10_fine d 0 0 [vA m, vI k] h (fun r' h' => r' = some (vI k) ∧ MRel m b1 b2 b3 b4 b5 b6 b7 b8 b9 lo hi (sLa 0 S) h' ∧ MFr lo hi h h') := by
  obtain ⟨⟨o0, o1, o2, o3, o4, o5, o6, o7, o8, o9, oA⟩, hm, ⟨gT, gD, gC, gK, gA, hb1, hb2, hb3, hb4, hb5, hcu⟩, ⟨fr, hb6, hrw⟩, ⟨sm, hb7, hsm⟩, ⟨g8, hb8, htl⟩, ⟨gw, hb9⟩⟩ := id hM
  refine MC.of (by decide) (Nat.le_of_ble_eq_true rfl) (fun ok okh => ?_)
  show EX G mX10_fine d 0 0 _ 0 [(0, vA m), (1, vI k)] [] h 0 0
  refine x_aload_n 0 dX10_fine_0 rfl rfl ?_
  refine x_iconst dX10_fine_1 (okI_c rfl) ?_
  refine x_put 13 dX10_fine_2 pu_X10_42 hm rfl rfl (Nat.le_of_ble_eq_true rfl) ?_
  refine x_iload_n 1 dX10_fine_5 rfl rfl ?_
  exact x_ireturn dX10_fine_6 rfl (by decide) (by decide) ⟨rfl, ⟨⟨o0, o1, o2, o3, o4, o5, o6, o7, o8, o9, oA⟩, (hset_eq _ _ _), ⟨gT, gD, gC, gK, gA, ((hset_ne _ _ (by omega)).trans hb1), ((hset_ne _ _ (by omega)).trans hb2), ((hset_ne _ _ (by omega)).trans hb3), ((hset_ne _ _ (by omega)).trans hb4), ((hset_ne _ _ (by omega)).trans hb5), hcu⟩, ⟨fr, ((hset_ne _ _ (by omega)).trans hb6), hrw⟩, ⟨sm, ((hset_ne _ _ (by omega)).trans hb7), hsm⟩, ⟨g8, ((hset_ne _ _ (by omega)).trans hb8), htl⟩, ⟨_, ((hset_ne _ _ (by omega)).trans hb9)⟩⟩, (MFr.set MFr.refl (by omega) (by omega))⟩
set_option maxRecDepth 100000 in
set_option maxHeartbeats 4000000 in
theorem k_X10_none {G : aG} {d : Nat} {m b1 b2 b3 b4 b5 b6 b7 b8 b9 lo hi : Nat} {S : aS} {h : aH} (hM : MRel m b1 b2 b3 b4 b5 b6 b7 b8 b9 lo hi S h) {k : Int} : MC G mX10_none d 0 0 [vA m, vI k] h (fun r' h' => r' = some (vJ (-1)) ∧ MRel m b1 b2 b3 b4 b5 b6 b7 b8 b9 lo hi (sLa k S) h' ∧ MFr lo hi h h') := by
  obtain ⟨⟨o0, o1, o2, o3, o4, o5, o6, o7, o8, o9, oA⟩, hm, ⟨gT, gD, gC, gK, gA, hb1, hb2, hb3, hb4, hb5, hcu⟩, ⟨fr, hb6, hrw⟩, ⟨sm, hb7, hsm⟩, ⟨g8, hb8, htl⟩, ⟨gw, hb9⟩⟩ := id hM
  refine MC.of (by decide) (Nat.le_of_ble_eq_true rfl) (fun ok okh => ?_)
  show EX G mX10_none d 0 0 _ 0 [(0, vA m), (1, vI k)] [] h 0 0
  refine x_aload_n 0 dX10_none_0 rfl rfl ?_
  refine x_iload_n 1 dX10_none_1 rfl rfl ?_
  refine x_put 13 dX10_none_2 pu_X10_42 hm rfl rfl (Nat.le_of_ble_eq_true rfl) ?_
  refine x_ldc2 (n := (-1)) dX10_none_5 (okJ_c rfl) kc_X10_45 ?_
  exact x_lreturn dX10_none_8 rfl (by decide) (by decide) ⟨rfl, ⟨⟨o0, o1, o2, o3, o4, o5, o6, o7, o8, o9, oA⟩, (hset_eq _ _ _), ⟨gT, gD, gC, gK, gA, ((hset_ne _ _ (by omega)).trans hb1), ((hset_ne _ _ (by omega)).trans hb2), ((hset_ne _ _ (by omega)).trans hb3), ((hset_ne _ _ (by omega)).trans hb4), ((hset_ne _ _ (by omega)).trans hb5), hcu⟩, ⟨fr, ((hset_ne _ _ (by omega)).trans hb6), hrw⟩, ⟨sm, ((hset_ne _ _ (by omega)).trans hb7), hsm⟩, ⟨g8, ((hset_ne _ _ (by omega)).trans hb8), htl⟩, ⟨_, ((hset_ne _ _ (by omega)).trans hb9)⟩⟩, (MFr.set MFr.refl (by omega) (by omega))⟩
set_option maxRecDepth 100000 in
set_option maxHeartbeats 4000000 in
theorem k_X10_fineLong {G : aG} {d : Nat} {m b1 b2 b3 b4 b5 b6 b7 b8 b9 lo hi : Nat} {S : aS} {h : aH} (hM : MRel m b1 b2 b3 b4 b5 b6 b7 b8 b9 lo hi S h) {k : Int} : MC G mX10_fineLong d 0 0 [vA m, vJ k] h (fun r' h' => r' = some (vJ k) ∧ MRel m b1 b2 b3 b4 b5 b6 b7 b8 b9 lo hi (sLa 0 S) h' ∧ MFr lo hi h h') := by
  obtain ⟨⟨o0, o1, o2, o3, o4, o5, o6, o7, o8, o9, oA⟩, hm, ⟨gT, gD, gC, gK, gA, hb1, hb2, hb3, hb4, hb5, hcu⟩, ⟨fr, hb6, hrw⟩, ⟨sm, hb7, hsm⟩, ⟨g8, hb8, htl⟩, ⟨gw, hb9⟩⟩ := id hM
  refine MC.of (by decide) (Nat.le_of_ble_eq_true rfl) (fun ok okh => ?_)
  show EX G mX10_fineLong d 0 0 _ 0 [(0, vA m), (1, vJ k)] [] h 0 0
  refine x_aload_n 0 dX10_fineLong_0 rfl rfl ?_
  refine x_iconst dX10_fineLong_1 (okI_c rfl) ?_
  refine x_put 13 dX10_fineLong_2 pu_X10_42 hm rfl rfl (Nat.le_of_ble_eq_true rfl) ?_
  refine x_lload_n 1 dX10_fineLong_5 rfl rfl ?_
  exact x_lreturn dX10_fineLong_6 rfl (by decide) (by decide) ⟨rfl, ⟨⟨o0, o1, o2, o3, o4, o5, o6, o7, o8, o9, oA⟩, (hset_eq _ _ _), ⟨gT, gD, gC, gK, gA, ((hset_ne _ _ (by omega)).trans hb1), ((hset_ne _ _ (by omega)).trans hb2), ((hset_ne _ _ (by omega)).trans hb3), ((hset_ne _ _ (by omega)).trans hb4), ((hset_ne _ _ (by omega)).trans hb5), hcu⟩, ⟨fr, ((hset_ne _ _ (by omega)).trans hb6), hrw⟩, ⟨sm, ((hset_ne _ _ (by omega)).trans hb7), hsm⟩, ⟨g8, ((hset_ne _ _ (by omega)).trans hb8), htl⟩, ⟨_, ((hset_ne _ _ (by omega)).trans hb9)⟩⟩, (MFr.set MFr.refl (by omega) (by omega))⟩
set_option maxRecDepth 100000 in
set_option maxHeartbeats 4000000 in
theorem k_X10_in {G : aG} {d : Nat} {h : aH} {v a b : Int} : MC G mX10_in d 0 0 [vJ v, vJ a, vJ b] h (Ret (vI (b2i (a ≤ v ∧ v ≤ b))) h) := by
  refine MC.of (by decide) (Nat.le_of_ble_eq_true rfl) (fun ok okh => ?_)
  show EX G mX10_in d 0 0 _ 0 [(0, vJ v), (2, vJ a), (4, vJ b)] [] h 0 0
  refine x_lload_n 0 dX10_in_0 rfl rfl ?_
  refine x_lload_n 1 dX10_in_1 rfl rfl ?_
  refine x_lc_lt 17 dX10_in_2 dX10_in_3 (by decide) (fun c_2 => ?_) (fun c_2 => ?_)
  · refine x_iconst dX10_in_17 (okI_c rfl) ?_
    exact x_zreturn dX10_in_18 rfl (by omega) (by decide) (by decide) (retI (b2i_f (fun z => by have := z.1; have := z.2; omega)).symm)
  · refine x_lload_n 0 dX10_in_6 rfl rfl ?_
    refine x_lload 2 dX10_in_7 rfl ?_
    refine x_lc_gt 17 dX10_in_9 dX10_in_10 (by decide) (fun c_9 => ?_) (fun c_9 => ?_)
    · refine x_iconst dX10_in_17 (okI_c rfl) ?_
      exact x_zreturn dX10_in_18 rfl (by omega) (by decide) (by decide) (retI (b2i_f (fun z => by have := z.1; have := z.2; omega)).symm)
    · refine x_iconst dX10_in_13 (okI_c rfl) ?_
      refine x_goto 18 dX10_in_14 (by decide) ?_
      exact x_zreturn dX10_in_18 rfl (by omega) (by decide) (by decide) (retI (b2i_t ⟨by omega, by omega⟩).symm)
set_option maxRecDepth 100000 in
set_option maxHeartbeats 4000000 in
theorem k_X10_isCurve {G : aG} {d : Nat} (hd : 1 ≤ d) {m b1 b2 b3 b4 b5 b6 b7 b8 b9 lo hi : Nat} {S : aS} {nc : Nat} {h : aH} (hM : MRel m b1 b2 b3 b4 b5 b6 b7 b8 b9 lo hi S h) (hS : SOk nc S) {f : Int} : MC G mX10_isCurve d 0 0 [vA m, vI f] h (Ret (vI (b2i (isC S f))) h) := by
  obtain ⟨⟨o0, o1, o2, o3, o4, o5, o6, o7, o8, o9, oA⟩, hm, ⟨gT, gD, gC, gK, gA, hb1, hb2, hb3, hb4, hb5, hcu⟩, ⟨fr, hb6, hrw⟩, ⟨sm, hb7, hsm⟩, ⟨g8, hb8, htl⟩, ⟨gw, hb9⟩⟩ := id hM
  obtain ⟨⟨s1, s2⟩, s3, ⟨s4, s5⟩, ⟨s6, s7, s8⟩, s9, ⟨s10, s11⟩, s12⟩ := id hS
  refine MC.of (by decide) (Nat.le_of_ble_eq_true rfl) (fun ok okh => ?_)
  show EX G mX10_isCurve d 0 0 _ 0 [(0, vA m), (1, vI f)] [] h 0 0
  refine x_iload_n 1 dX10_isCurve_0 rfl rfl ?_
  refine x_i2l dX10_isCurve_1 ?_
  refine x_lconst (x := 0) dX10_isCurve_2 (okJ_c rfl) rfl ?_
  refine x_aload_n 0 dX10_isCurve_3 rfl rfl ?_
  refine x_get 0 dX10_isCurve_4 fl_X10_47 hm rfl ?_
  refine x_iconst dX10_isCurve_7 (okI_c rfl) ?_
  refine x_isub dX10_isCurve_8 (by unfold okI; omega) ?_
  refine x_i2l dX10_isCurve_9 ?_
  refine x_callS [vJ f, vJ 0, vJ (((sCu S)) - 1)] dX10_isCurve_10 ks_X10_50 rfl rfl (by omega) (Nat.le_of_ble_eq_true rfl) (by omega) (by omega) (k_X10_in (d := 0)) (after_ret ?_)
  exact x_zreturn dX10_isCurve_13 rfl (b2i_or _) (by decide) (by decide) (retI (b2i_congr ⟨fun z => ⟨z.1, by have := z.2; omega⟩, fun z => ⟨z.1, by have := z.2; omega⟩⟩))
set_option maxRecDepth 100000 in
set_option maxHeartbeats 4000000 in
theorem k_X10_value {G : aG} {d : Nat} {m b1 b2 b3 b4 b5 b6 b7 b8 b9 lo hi : Nat} {S : aS} {nc : Nat} {h : aH} (hM : MRel m b1 b2 b3 b4 b5 b6 b7 b8 b9 lo hi S h) (hS : SOk nc S) {f t : Int} (hf : isC S f) (ht0 : 0 ≤ t) (ht1 : t ≤ 2000000000) : MC G mX10_value d 0 0 [vA m, vI f, vJ t] h (Ret (vJ (sF S f t)) h) := by
  obtain ⟨⟨o0, o1, o2, o3, o4, o5, o6, o7, o8, o9, oA⟩, hm, ⟨gT, gD, gC, gK, gA, hb1, hb2, hb3, hb4, hb5, hcu⟩, ⟨fr, hb6, hrw⟩, ⟨sm, hb7, hsm⟩, ⟨g8, hb8, htl⟩, ⟨gw, hb9⟩⟩ := id hM
  obtain ⟨⟨s1, s2⟩, s3, ⟨s4, s5⟩, ⟨s6, s7, s8⟩, s9, ⟨s10, s11⟩, s12⟩ := id hS
  have hcf := hcu f hf.1 hf.2
  obtain ⟨hT0f, hT2f, hD0f, hD6f, hC0f, hC1f, hAf, hMf, hWf⟩ := id (s3 f hf.1 hf.2)
  have hlf := hf.2
  have hzf := hf.1
  refine MC.of (by decide) (Nat.le_of_ble_eq_true rfl) (fun ok okh => ?_)
  show EX G mX10_value d 0 0 _ 0 [(0, vA m), (1, vI f), (2, vJ t)] [] h 0 0
  refine x_lload_n 2 dX10_value_0 rfl rfl ?_
  refine x_aload_n 0 dX10_value_1 rfl rfl ?_
  refine x_get 1 dX10_value_2 fl_X10_7 hm rfl ?_
  refine x_iload_n 1 dX10_value_5 rfl rfl ?_
  refine x_iaload dX10_value_6 hb1 (by omega) (by omega) ?_
  refine x_asI (y := (sT S f)) hcf.1 ?_
  refine x_i2l dX10_value_7 ?_
  refine x_lsub dX10_value_8 (by unfold okJ; omega) ?_
  refine x_nmJ (fun x1 e_x1 => ?_)
  refine x_lstore (L' := [(4, vJ x1), (0, vA m), (1, vI f), (2, vJ t)]) dX10_value_9 (Nat.le_of_ble_eq_true rfl) rfl ?_
  refine x_lload 0 dX10_value_11 rfl ?_
  refine x_aload_n 1 dX10_value_13 rfl rfl ?_
  refine x_get 2 dX10_value_14 fl_X10_13 hm rfl ?_
  refine x_iload_n 2 dX10_value_17 rfl rfl ?_
  refine x_iaload dX10_value_18 hb2 (by omega) (by omega) ?_
  refine x_asI (y := (sD S f)) hcf.2.1 ?_
  refine x_i2l dX10_value_19 ?_
  refine x_lc_ge 38 dX10_value_20 dX10_value_21 (by decide) (fun c_20 => ?_) (fun c_20 => ?_)
  · have hmm := modB (x := x1) (y := sD S f) (by omega)
    have hdd := divB (x := x1) (y := sD S f) (by omega) (by omega)
    have hpp := mulB (x := x1 / sD S f) (y := sC S f) hdd.1 (by omega) (X := 2000000000) (Y := 1000000000) (by omega) (by omega)
    refine x_aload_n 1 dX10_value_38 rfl rfl ?_
    refine x_get 5 dX10_value_39 fl_X10_23 hm rfl ?_
    refine x_sipush dX10_value_42 (okI_c rfl) (by decide +kernel) ?_
    refine x_iload_n 2 dX10_value_45 rfl rfl ?_
    refine x_imul dX10_value_46 (by unfold okI; omega) ?_
    refine x_aload_n 1 dX10_value_47 rfl rfl ?_
    refine x_get 1 dX10_value_48 fl_X10_7 hm rfl ?_
    refine x_iload_n 2 dX10_value_51 rfl rfl ?_
    refine x_iaload dX10_value_52 hb1 (by omega) (by omega) ?_
    refine x_asI (y := (sT S f)) hcf.1 ?_
    refine x_iadd dX10_value_53 (by unfold okI; omega) ?_
    refine x_lload 0 dX10_value_54 rfl ?_
    refine x_aload_n 1 dX10_value_56 rfl rfl ?_
    refine x_get 2 dX10_value_57 fl_X10_13 hm rfl ?_
    refine x_iload_n 2 dX10_value_60 rfl rfl ?_
    refine x_iaload dX10_value_61 hb2 (by omega) (by omega) ?_
    refine x_asI (y := (sD S f)) hcf.2.1 ?_
    refine x_i2l dX10_value_62 ?_
    refine x_lrem dX10_value_63 (by omega) (by omega) ?_
    refine x_l2i dX10_value_64 (by unfold okI; omega) ?_
    refine x_iadd dX10_value_65 (by unfold okI; omega) ?_
    refine x_laload dX10_value_66 hb5 (by omega) (by omega) ?_
    refine x_asJ (y := (sA S f (sT S f + x1 % sD S f).toNat)) (by have := hcf.2.2.2.2 (sT S f + x1 % sD S f) (by omega) (by omega); rw [← Int.add_assoc] at this; exact this) ?_
    refine x_lload 0 dX10_value_67 rfl ?_
    refine x_aload_n 1 dX10_value_69 rfl rfl ?_
    refine x_get 2 dX10_value_70 fl_X10_13 hm rfl ?_
    refine x_iload_n 2 dX10_value_73 rfl rfl ?_
    refine x_iaload dX10_value_74 hb2 (by omega) (by omega) ?_
    refine x_asI (y := (sD S f)) hcf.2.1 ?_
    refine x_i2l dX10_value_75 ?_
    refine x_ldiv dX10_value_76 (by omega) (by omega) ?_
    refine x_aload_n 1 dX10_value_77 rfl rfl ?_
    refine x_get 3 dX10_value_78 fl_X10_16 hm rfl ?_
    refine x_iload_n 2 dX10_value_81 rfl rfl ?_
    refine x_laload dX10_value_82 hb3 (by omega) (by omega) ?_
    refine x_asJ (y := (sC S f)) hcf.2.2.1 ?_
    refine x_lmul dX10_value_83 (by unfold okJ; omega) ?_
    refine x_ladd dX10_value_84 (by have := (hAf (sT S f + x1 % sD S f) (by omega) (by omega)); unfold okJ; omega) ?_
    exact x_lreturn dX10_value_85 rfl (by decide) (by decide) (retJ (by rw [sF, cval, if_neg (by omega), ← e_x1]))
  · refine x_aload_n 1 dX10_value_24 rfl rfl ?_
    refine x_get 5 dX10_value_25 fl_X10_23 hm rfl ?_
    refine x_sipush dX10_value_28 (okI_c rfl) (by decide +kernel) ?_
    refine x_iload_n 2 dX10_value_31 rfl rfl ?_
    refine x_imul dX10_value_32 (by unfold okI; omega) ?_
    refine x_lload_n 3 dX10_value_33 rfl rfl ?_
    refine x_l2i dX10_value_34 (by unfold okI; omega) ?_
    refine x_iadd dX10_value_35 (by unfold okI; omega) ?_
    refine x_laload dX10_value_36 hb5 (by omega) (by omega) ?_
    refine x_asJ (y := (sA S f t.toNat)) (hcf.2.2.2.2 t ht0 (by omega)) ?_
    exact x_lreturn dX10_value_37 rfl (by decide) (by decide) (retJ (by rw [sF, cval_lt (by omega)]))
theorem gcd_step {x y : Int} (hx : 0 ≤ x) (hy : 0 < y) : Int.gcd y (x % y) = Int.gcd x y := by
  rw [Int.gcd_comm x y]
  obtain ⟨a, rfl⟩ : ∃ a : Nat, x = a := ⟨x.toNat, by omega⟩
  obtain ⟨b, rfl⟩ : ∃ b : Nat, y = b := ⟨y.toNat, by omega⟩
  show Nat.gcd b (a % b) = Nat.gcd b a
  rw [Nat.gcd_comm b (a % b)]
  exact (Nat.gcd_rec b a).symm
set_option maxRecDepth 100000 in
set_option maxHeartbeats 4000000 in
theorem k_X10_divisor {G : aG} {d : Nat} {h : aH} {a b : Int} (ha : 0 ≤ a) (hb : 0 ≤ b) : MC G mX10_divisor d 0 0 [vI a, vI b] h (Ret (vI ((Int.gcd a b : Nat) : Int)) h) := by
  refine MC.of (by decide) (Nat.le_of_ble_eq_true rfl) (fun ok okh => ?_)
  show EX G mX10_divisor d 0 0 _ 0 [(0, vI a), (1, vI b)] [] h 0 0
  refine x_iload_n 0 dX10_divisor_0 rfl rfl ?_
  refine x_istore_n (L' := [(2, vI a), (0, vI a), (1, vI b)]) dX10_divisor_1 rfl (Nat.le_of_ble_eq_true rfl) rfl ?_
  refine x_iload_n 2 dX10_divisor_2 rfl rfl ?_
  refine x_istore_n (L' := [(3, vI b), (2, vI a), (0, vI a), (1, vI b)]) dX10_divisor_3 rfl (Nat.le_of_ble_eq_true rfl) rfl ?_
  have loop_4 : ∀ (k_4 : Nat) (x : Int) (y : Int) , (y).toNat < k_4 → (0 ≤ x) → (0 ≤ y) → (Int.gcd x y = Int.gcd a b) → EX G mX10_divisor d 0 0 (Ret (vI ((Int.gcd a b : Nat) : Int)) h) 4 [(2, vI x), (3, vI y)] [] h 0 0 := by
    intro k_4
    induction k_4 with
    | zero => intro x y hm; exact absurd hm (Nat.not_lt_zero _)
    | succ k_4 ih_4 =>
      intro x y hm_4 hx hy hg
      refine x_iload_n 1 dX10_divisor_4 rfl rfl ?_
      refine x_if_le 21 dX10_divisor_5 (by decide) (fun c_5 => ?_) (fun c_5 => ?_)
      · refine x_iload_n 0 dX10_divisor_21 rfl rfl ?_
        exact x_ireturn dX10_divisor_22 rfl (by decide) (by decide) (retI (by rw [← hg, show y = 0 by omega, Int.gcd_zero_right]; omega))
      · refine x_iload_n 0 dX10_divisor_8 rfl rfl ?_
        refine x_iload_n 1 dX10_divisor_9 rfl rfl ?_
        refine x_irem dX10_divisor_10 (by omega) (by omega) ?_
        refine x_nmI (fun x1 e_x1 => ?_)
        refine x_istore (L' := [(4, vI x1), (2, vI x), (3, vI y)]) dX10_divisor_11 (Nat.le_of_ble_eq_true rfl) rfl ?_
        refine x_iload_n 2 dX10_divisor_13 rfl rfl ?_
        refine x_istore_n (L' := [(2, vI y), (4, vI x1), (3, vI y)]) dX10_divisor_14 rfl (Nat.le_of_ble_eq_true rfl) rfl ?_
        refine x_iload 1 dX10_divisor_15 rfl ?_
        refine x_istore_n (L' := [(3, vI x1), (2, vI y), (4, vI x1)]) dX10_divisor_17 rfl (Nat.le_of_ble_eq_true rfl) rfl ?_
        refine x_goto 4 dX10_divisor_18 (by decide) ?_
        have hmm := modB (x := x) (y := y) (by omega)
        exact EX.pick [1, 0] rfl (ih_4 y x1  (by omega) (by omega) (by omega) (by rw [e_x1, gcd_step hx (by omega)]; exact hg))
  exact EX.pick [1, 0] rfl (loop_4 (((b : Int)).toNat + 1) a b  (Nat.lt_succ_self _) (by omega) (by omega) rfl)
theorem lcm_eq {a b : Int} (ha : 1 ≤ a) (hb : 1 ≤ b) : a / ((Int.gcd a b : Nat) : Int) * b = ((Int.lcm a b : Nat) : Int) := by
  obtain ⟨x, rfl⟩ : ∃ x : Nat, a = x := ⟨a.toNat, by omega⟩
  obtain ⟨y, rfl⟩ : ∃ y : Nat, b = y := ⟨b.toNat, by omega⟩
  show ((x : Int) / ((Nat.gcd x y : Nat) : Int)) * (y : Int) = ((Nat.lcm x y : Nat) : Int)
  rw [← Int.natCast_ediv, ← Int.natCast_mul, Nat.lcm, Nat.div_mul_right_comm (Nat.gcd_dvd_left x y)]
set_option maxRecDepth 100000 in
set_option maxHeartbeats 4000000 in
theorem k_X10_latest {G : aG} {d : Nat} {m b1 b2 b3 b4 b5 b6 b7 b8 b9 lo hi : Nat} {S : aS} {nc : Nat} {h : aH} (hM : MRel m b1 b2 b3 b4 b5 b6 b7 b8 b9 lo hi S h) (hS : SOk nc S) {f g : Int} (hf : isC S f) (hg : isC S g) : MC G mX10_latest d 0 0 [vA m, vI f, vI g] h (Ret (vI (max (sT S f) (sT S g))) h) := by
  obtain ⟨⟨o0, o1, o2, o3, o4, o5, o6, o7, o8, o9, oA⟩, hm, ⟨gT, gD, gC, gK, gA, hb1, hb2, hb3, hb4, hb5, hcu⟩, ⟨fr, hb6, hrw⟩, ⟨sm, hb7, hsm⟩, ⟨g8, hb8, htl⟩, ⟨gw, hb9⟩⟩ := id hM
  obtain ⟨⟨s1, s2⟩, s3, ⟨s4, s5⟩, ⟨s6, s7, s8⟩, s9, ⟨s10, s11⟩, s12⟩ := id hS
  have hcf := hcu f hf.1 hf.2
  obtain ⟨hT0f, hT2f, hD0f, hD6f, hC0f, hC1f, hAf, hMf, hWf⟩ := id (s3 f hf.1 hf.2)
  have hlf := hf.2
  have hzf := hf.1
  have hcg := hcu g hg.1 hg.2
  obtain ⟨hT0g, hT2g, hD0g, hD6g, hC0g, hC1g, hAg, hMg, hWg⟩ := id (s3 g hg.1 hg.2)
  have hlg := hg.2
  have hzg := hg.1
  refine MC.of (by decide) (Nat.le_of_ble_eq_true rfl) (fun ok okh => ?_)
  show EX G mX10_latest d 0 0 _ 0 [(0, vA m), (1, vI f), (2, vI g)] [] h 0 0
  refine x_aload_n 0 dX10_latest_0 rfl rfl ?_
  refine x_get 1 dX10_latest_1 fl_X10_7 hm rfl ?_
  refine x_iload_n 1 dX10_latest_4 rfl rfl ?_
  refine x_iaload dX10_latest_5 hb1 (by omega) (by omega) ?_
  refine x_asI (y := (sT S f)) hcf.1 ?_
  refine x_aload_n 0 dX10_latest_6 rfl rfl ?_
  refine x_get 1 dX10_latest_7 fl_X10_7 hm rfl ?_
  refine x_iload_n 2 dX10_latest_10 rfl rfl ?_
  refine x_iaload dX10_latest_11 hb1 (by omega) (by omega) ?_
  refine x_asI (y := (sT S g)) hcg.1 ?_
  refine x_icmp_le 24 dX10_latest_12 (by decide) (fun c_12 => ?_) (fun c_12 => ?_)
  · refine x_aload_n 0 dX10_latest_24 rfl rfl ?_
    refine x_get 1 dX10_latest_25 fl_X10_7 hm rfl ?_
    refine x_iload_n 2 dX10_latest_28 rfl rfl ?_
    refine x_iaload dX10_latest_29 hb1 (by omega) (by omega) ?_
    refine x_asI (y := (sT S g)) hcg.1 ?_
    exact x_ireturn dX10_latest_30 rfl (by decide) (by decide) (retI (by omega))
  · refine x_aload_n 0 dX10_latest_15 rfl rfl ?_
    refine x_get 1 dX10_latest_16 fl_X10_7 hm rfl ?_
    refine x_iload_n 1 dX10_latest_19 rfl rfl ?_
    refine x_iaload dX10_latest_20 hb1 (by omega) (by omega) ?_
    refine x_asI (y := (sT S f)) hcf.1 ?_
    refine x_goto 30 dX10_latest_21 (by decide) ?_
    exact x_ireturn dX10_latest_30 rfl (by decide) (by decide) (retI (by omega))
set_option maxRecDepth 100000 in
set_option maxHeartbeats 4000000 in
theorem k_X10_gainIn {G : aG} {d : Nat} {m b1 b2 b3 b4 b5 b6 b7 b8 b9 lo hi : Nat} {S : aS} {nc : Nat} {h : aH} (hM : MRel m b1 b2 b3 b4 b5 b6 b7 b8 b9 lo hi S h) (hS : SOk nc S) {f p : Int} (hf : isC S f) (hp0 : 0 ≤ p) (hp : p ≤ 60) : MC G mX10_gainIn d 0 0 [vA m, vI f, vI p] h (Ret (vJ (sGi S f p)) h) := by
  obtain ⟨⟨o0, o1, o2, o3, o4, o5, o6, o7, o8, o9, oA⟩, hm, ⟨gT, gD, gC, gK, gA, hb1, hb2, hb3, hb4, hb5, hcu⟩, ⟨fr, hb6, hrw⟩, ⟨sm, hb7, hsm⟩, ⟨g8, hb8, htl⟩, ⟨gw, hb9⟩⟩ := id hM
  obtain ⟨⟨s1, s2⟩, s3, ⟨s4, s5⟩, ⟨s6, s7, s8⟩, s9, ⟨s10, s11⟩, s12⟩ := id hS
  have hcf := hcu f hf.1 hf.2
  obtain ⟨hT0f, hT2f, hD0f, hD6f, hC0f, hC1f, hAf, hMf, hWf⟩ := id (s3 f hf.1 hf.2)
  have hlf := hf.2
  have hzf := hf.1
  refine MC.of (by decide) (Nat.le_of_ble_eq_true rfl) (fun ok okh => ?_)
  show EX G mX10_gainIn d 0 0 _ 0 [(0, vA m), (1, vI f), (2, vI p)] [] h 0 0
  refine x_aload_n 0 dX10_gainIn_0 rfl rfl ?_
  refine x_get 3 dX10_gainIn_1 fl_X10_16 hm rfl ?_
  refine x_iload_n 1 dX10_gainIn_4 rfl rfl ?_
  refine x_laload dX10_gainIn_5 hb3 (by omega) (by omega) ?_
  refine x_asJ (y := (sC S f)) hcf.2.2.1 ?_
  refine x_iload_n 2 dX10_gainIn_6 rfl rfl ?_
  refine x_aload_n 0 dX10_gainIn_7 rfl rfl ?_
  refine x_get 2 dX10_gainIn_8 fl_X10_13 hm rfl ?_
  refine x_iload_n 1 dX10_gainIn_11 rfl rfl ?_
  refine x_iaload dX10_gainIn_12 hb2 (by omega) (by omega) ?_
  refine x_asI (y := (sD S f)) hcf.2.1 ?_
  have hdd := divB (x := p) (y := sD S f) (by omega) (by omega)
  refine x_idiv dX10_gainIn_13 (by omega) (by omega) ?_
  refine x_i2l dX10_gainIn_14 ?_
  have hpp := mulB (x := sC S f) (y := p / sD S f) (by omega) hdd.1 (X := 1000000000) (Y := 60) (by omega) (by omega)
  refine x_lmul dX10_gainIn_15 (by unfold okJ; omega) ?_
  exact x_lreturn dX10_gainIn_16 rfl (by decide) (by decide) (retJ rfl)
set_option maxRecDepth 100000 in
set_option maxHeartbeats 4000000 in
theorem k_X10_together {G : aG} {d : Nat} (hd : 1 ≤ d) {m b1 b2 b3 b4 b5 b6 b7 b8 b9 lo hi : Nat} {S : aS} {nc : Nat} {h : aH} (hM : MRel m b1 b2 b3 b4 b5 b6 b7 b8 b9 lo hi S h) (hS : SOk nc S) {f g : Int} (hf : isC S f) (hg : isC S g) : MC G mX10_together d 0 0 [vA m, vI f, vI g] h (Ret (vI ((Int.lcm (sD S f) (sD S g) : Nat) : Int)) h) := by
  obtain ⟨⟨o0, o1, o2, o3, o4, o5, o6, o7, o8, o9, oA⟩, hm, ⟨gT, gD, gC, gK, gA, hb1, hb2, hb3, hb4, hb5, hcu⟩, ⟨fr, hb6, hrw⟩, ⟨sm, hb7, hsm⟩, ⟨g8, hb8, htl⟩, ⟨gw, hb9⟩⟩ := id hM
  obtain ⟨⟨s1, s2⟩, s3, ⟨s4, s5⟩, ⟨s6, s7, s8⟩, s9, ⟨s10, s11⟩, s12⟩ := id hS
  have hcf := hcu f hf.1 hf.2
  obtain ⟨hT0f, hT2f, hD0f, hD6f, hC0f, hC1f, hAf, hMf, hWf⟩ := id (s3 f hf.1 hf.2)
  have hlf := hf.2
  have hzf := hf.1
  have hcg := hcu g hg.1 hg.2
  obtain ⟨hT0g, hT2g, hD0g, hD6g, hC0g, hC1g, hAg, hMg, hWg⟩ := id (s3 g hg.1 hg.2)
  have hlg := hg.2
  have hzg := hg.1
  refine MC.of (by decide) (Nat.le_of_ble_eq_true rfl) (fun ok okh => ?_)
  show EX G mX10_together d 0 0 _ 0 [(0, vA m), (1, vI f), (2, vI g)] [] h 0 0
  refine x_aload_n 0 dX10_together_0 rfl rfl ?_
  refine x_get 2 dX10_together_1 fl_X10_13 hm rfl ?_
  refine x_iload_n 1 dX10_together_4 rfl rfl ?_
  refine x_iaload dX10_together_5 hb2 (by omega) (by omega) ?_
  refine x_asI (y := (sD S f)) hcf.2.1 ?_
  refine x_aload_n 0 dX10_together_6 rfl rfl ?_
  refine x_get 2 dX10_together_7 fl_X10_13 hm rfl ?_
  refine x_iload_n 1 dX10_together_10 rfl rfl ?_
  refine x_iaload dX10_together_11 hb2 (by omega) (by omega) ?_
  refine x_asI (y := (sD S f)) hcf.2.1 ?_
  refine x_aload_n 0 dX10_together_12 rfl rfl ?_
  refine x_get 2 dX10_together_13 fl_X10_13 hm rfl ?_
  refine x_iload_n 2 dX10_together_16 rfl rfl ?_
  refine x_iaload dX10_together_17 hb2 (by omega) (by omega) ?_
  refine x_asI (y := (sD S g)) hcg.2.1 ?_
  refine x_callS [vI ((sD S f)), vI ((sD S g))] dX10_together_18 ks_X10_91 rfl rfl (by omega) (Nat.le_of_ble_eq_true rfl) (by omega) (by omega) (k_X10_divisor (d := 0) (a := sD S f) (b := sD S g) (by omega) (by omega)) (after_ret ?_)
  have hg1 := gcd_nn (sD S f) (sD S g) (by omega)
  refine x_idiv dX10_together_21 (by omega) (by omega) ?_
  refine x_aload_n 0 dX10_together_22 rfl rfl ?_
  refine x_get 2 dX10_together_23 fl_X10_13 hm rfl ?_
  refine x_iload_n 2 dX10_together_26 rfl rfl ?_
  refine x_iaload dX10_together_27 hb2 (by omega) (by omega) ?_
  refine x_asI (y := (sD S g)) hcg.2.1 ?_
  have hdd := divB (x := sD S f) (y := ((Int.gcd (sD S f) (sD S g) : Nat) : Int)) (by omega) (by omega)
  have hpp := mulB (x := sD S f / ((Int.gcd (sD S f) (sD S g) : Nat) : Int)) (y := sD S g) hdd.1 (by omega) (X := 60) (Y := 60) (by omega) (by omega)
  refine x_imul dX10_together_28 (by unfold okI; omega) ?_
  exact x_ireturn dX10_together_29 rfl (by decide) (by decide) (retI (lcm_eq (by omega) (by omega)))
