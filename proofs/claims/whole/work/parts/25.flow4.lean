/-! ===== FlowCurves: making curves, undo, clear ===== -/
theorem mkO_no {H : Int → Int} {P c : Int} {S : aS} (h : NoCv H P c) : mkO H P c S = (-4, sLa (-4) S) := by rw [mkO, mkT_no h]; rfl
theorem mkO_yes {H : Int → Int} {P c T D C : Int} {S : aS} (h : YesCv H P c T D C) : mkO H P c S = (sCu S, sAdd T D C H S) := by rw [mkO, mkT_yes h]
set_option maxRecDepth 100000 in
set_option maxHeartbeats 4000000 in
theorem k_X9_kept_no {G : aG} {d : Nat} (hd : 1 ≤ d) {x ac ar rr cr ta tm mk md on ot lo hi : Nat} {S : aS} {h : aH} (hC : CRel x ac ar rr cr ta tm mk md on ot lo hi S h) : MC G mX9_kept d 0 0 [vA x, vN] h (fun r' h' => r' = some (vI (-4)) ∧ CRel x ac ar rr cr ta tm mk md on ot lo hi (sLa (-4) S) h' ∧ Fr lo hi h h') := by
  obtain ⟨⟨o1, o2, o3, o4, o5, o6, o7, o8, o9, oA, oB, oC, oD⟩, hx, ⟨fc, hac, hcs⟩, ⟨fr, har, hrw⟩, ⟨cm, hrr, hcr, hcm⟩, ⟨gt, hta, htm, htl⟩, hmk, ⟨gm, hmd⟩, ⟨g1, hon⟩, ⟨g2, hot⟩⟩ := id hC
  refine MC.of (by decide) (Nat.le_of_ble_eq_true rfl) (fun ok okh => ?_)
  show EX G mX9_kept d 0 0 _ 0 [(0, vA x), (1, vN)] [] h 0 0
  refine x_aloadr_n 1 dX9_kept_0 rfl rfl ?_
  refine x_ifnonnull (r := none) 11 dX9_kept_1 (by decide) (fun z => nomatch z) (fun _ => ?_)
  refine x_aload_n 0 dX9_kept_4 rfl rfl ?_
  refine x_bipush dX9_kept_5 (okI_c rfl) (by decide +kernel) ?_
  refine x_callV [vI ((-4))] dX9_kept_7 kv_X9_59 rfl rfl hx (by omega) (Nat.le_of_ble_eq_true rfl) (by omega) (by omega) (k_X9_refused (d := 0) hC) (fun r1 h1 q1 => ?_)
  obtain ⟨rfl, hCz, hFz⟩ := q1
  exact x_ireturn dX9_kept_10 rfl (by omega) (by omega) ⟨rfl, hCz, hFz⟩
set_option maxRecDepth 100000 in
set_option maxHeartbeats 4000000 in
theorem k_X9_kept {G : aG} {d : Nat} (hd : 1 ≤ d) {x ac ar rr cr ta tm mk md on ot lo hi : Nat} {S : aS} {h : aH} (hC : CRel x ac ar rr cr ta tm mk md on ot lo hi S h) (h0 : 0 ≤ sCu S) (h60 : sCu S < 60) {c : Nat} {T D C : Int} {H : Int → Int} (hce : CvE h hi (some c) T D C (fun k : Nat => H k)) : MC G mX9_kept d 0 0 [vA x, vA c] h (fun r' h' => r' = some (vI (sCu S)) ∧ CRel x ac ar rr cr ta tm mk md on ot lo hi (sAdd T D C H S) h' ∧ Fr lo hi h h') := by
  obtain ⟨⟨o1, o2, o3, o4, o5, o6, o7, o8, o9, oA, oB, oC, oD⟩, hx, ⟨fc, hac, hcs⟩, ⟨fr, har, hrw⟩, ⟨cm, hrr, hcr, hcm⟩, ⟨gt, hta, htm, htl⟩, hmk, ⟨gm, hmd⟩, ⟨g1, hon⟩, ⟨g2, hot⟩⟩ := id hC
  obtain ⟨c1, ci, a, am, ld, e, hcv, hkk, hAA, hi1, ha1⟩ := id hce
  have e := Option.some.inj e
  subst e
  refine MC.of (by decide) (Nat.le_of_ble_eq_true rfl) (fun ok okh => ?_)
  show EX G mX9_kept d 0 0 _ 0 [(0, vA x), (1, vA c)] [] h 0 0
  refine x_aload_n 1 dX9_kept_0 rfl rfl ?_
  refine x_ifnonnull (r := some c) 11 dX9_kept_1 (by decide) (fun _ => ?_) (fun z => nomatch z)
  refine x_aload_n 0 dX9_kept_11 rfl rfl ?_
  refine x_get 1 dX9_kept_12 fl_X9_15 hx rfl ?_
  refine x_if_lt 30 dX9_kept_15 (by decide) (fun c_15 => (by exfalso; omega)) (fun c_15 => ?_)
  refine x_aload_n 0 dX9_kept_18 rfl rfl ?_
  refine x_get 1 dX9_kept_19 fl_X9_15 hx rfl ?_
  refine x_aload_n 0 dX9_kept_22 rfl rfl ?_
  refine x_get 0 dX9_kept_23 fl_X9_11 hx rfl ?_
  refine x_alenR dX9_kept_26 hac (by omega) ?_
  refine x_icmp_lt 37 dX9_kept_27 (by decide) (fun c_27 => ?_) (fun c_27 => (by exfalso; omega))
  refine x_aload_n 0 dX9_kept_37 rfl rfl ?_
  refine x_get 0 dX9_kept_38 fl_X9_11 hx rfl ?_
  refine x_aload_n 0 dX9_kept_41 rfl rfl ?_
  refine x_get 1 dX9_kept_42 fl_X9_15 hx rfl ?_
  refine x_aload_n 1 dX9_kept_45 rfl rfl ?_
  refine x_aastore dX9_kept_46 hac hcv.1 hcv.2.2 (by omega) (by omega) ?_
  refine x_aload_n 0 dX9_kept_47 rfl rfl ?_
  refine x_dup dX9_kept_48 rfl ?_
  refine x_get 1 dX9_kept_49 fl_X9_15 ((hset_ne _ _ (by omega)).trans hx) rfl ?_
  refine x_iconst dX9_kept_52 (okI_c rfl) ?_
  refine x_iadd dX9_kept_53 (by unfold okI; omega) ?_
  refine x_put 1 dX9_kept_54 pu_X9_15 ((hset_ne _ _ (by omega)).trans hx) rfl rfl (Nat.le_of_ble_eq_true rfl) ?_
  refine x_aload_n 0 dX9_kept_57 rfl rfl ?_
  refine x_iconst dX9_kept_58 (okI_c rfl) ?_
  refine x_put 2 dX9_kept_59 pu_X9_19 (hset_eq _ _ _) (by decide +kernel) (by decide +kernel) (Nat.le_of_ble_eq_true rfl) ?_
  refine x_aload_n 0 dX9_kept_62 rfl rfl ?_
  refine x_aload_n 0 dX9_kept_63 rfl rfl ?_
  refine x_get 1 dX9_kept_64 fl_X9_15 (hset_eq _ _ _) rfl ?_
  refine x_iconst dX9_kept_67 (okI_c rfl) ?_
  refine x_isub dX9_kept_68 (by unfold okI; omega) ?_
  refine x_callV [vI ((((sCu S)) + 1) - 1)] dX9_kept_69 kv_X9_63 rfl rfl (hset_eq _ _ _) (by omega) (Nat.le_of_ble_eq_true rfl) (by omega) (by omega) (k_X9_granted (d := 0) (S := sLa (sLt S) (sAdd T D C H S)) (h := (hset (hset (hset h ac (eR 60 (va_up fc ((sCu S)).toNat (some c)))) x (eO 8 [vA ac, vI (((sCu S)) + 1), vI ((sMu S)), vA ar, vI ((sRn S)), vA rr, vI ((sSv S)), vA ta, vA mk, vI ((sLt S))])) x (eO 8 [vA ac, vI (((sCu S)) + 1), vI 1, vA ar, vI ((sRn S)), vA rr, vI ((sSv S)), vA ta, vA mk, vI ((sLt S))]))) (⟨⟨o1, o2, o3, o4, o5, o6, o7, o8, o9, oA, oB, oC, (by rw [hset_ne _ _ (show hi - 1 ≠ x by omega), hset_ne _ _ (show hi - 1 ≠ x by omega), hset_ne _ _ (show hi - 1 ≠ ac by omega)]; exact oD)⟩, (hset_eq _ _ _), ⟨(va_up fc ((sCu S)).toNat (some c)), ((hset_ne _ _ (by omega)).trans ((hset_ne _ _ (by omega)).trans (hset_eq _ _ _))), (fun i q1 q2 => by
            have q3 : i < sCu S + 1 := q2
            show CvE _ hi (va_up fc (sCu S).toNat (some c) i.toNat) (iup (sT S) (sCu S) T i) (iup (sD S) (sCu S) D i) (iup (sC S) (sCu S) C i) (iup (sA S) (sCu S) (fun k : Nat => H k) i)
            by_cases q : i = sCu S
            · subst q
              rw [va_up_self, iup_self, iup_self, iup_self, iup_self]
              exact (((hce).keep (by omega)).keep (by omega)).keep (by omega)
            · rw [va_up_ne _ _ (by omega), iup_ne _ _ q, iup_ne _ _ q, iup_ne _ _ q, iup_ne _ _ q]
              exact (((hcs i q1 (by omega)).keep (by omega)).keep (by omega)).keep (by omega))⟩, ⟨fr, ((hset_ne _ _ (by omega)).trans ((hset_ne _ _ (by omega)).trans ((hset_ne _ _ (by omega)).trans har))), hrw⟩, ⟨cm, ((hset_ne _ _ (by omega)).trans ((hset_ne _ _ (by omega)).trans ((hset_ne _ _ (by omega)).trans hrr))), ((hset_ne _ _ (by omega)).trans ((hset_ne _ _ (by omega)).trans ((hset_ne _ _ (by omega)).trans hcr))), hcm⟩, ⟨gt, ((hset_ne _ _ (by omega)).trans ((hset_ne _ _ (by omega)).trans ((hset_ne _ _ (by omega)).trans hta))), ((hset_ne _ _ (by omega)).trans ((hset_ne _ _ (by omega)).trans ((hset_ne _ _ (by omega)).trans htm))), htl⟩, ((hset_ne _ _ (by omega)).trans ((hset_ne _ _ (by omega)).trans ((hset_ne _ _ (by omega)).trans hmk))), ⟨_, ((hset_ne _ _ (by omega)).trans ((hset_ne _ _ (by omega)).trans ((hset_ne _ _ (by omega)).trans hmd)))⟩, ⟨_, ((hset_ne _ _ (by omega)).trans ((hset_ne _ _ (by omega)).trans ((hset_ne _ _ (by omega)).trans hon)))⟩, ⟨_, ((hset_ne _ _ (by omega)).trans ((hset_ne _ _ (by omega)).trans ((hset_ne _ _ (by omega)).trans hot)))⟩⟩)) (fun r1 h1 q1 => ?_)
  obtain ⟨rfl, hCz, hFz⟩ := q1
  exact x_ireturn dX9_kept_72 rfl (by omega) (by omega) ⟨by rw [show sCu S + 1 - 1 = sCu S by omega], hCz, (Fr.trans (Fr.set (Fr.set (Fr.set Fr.refl (by omega)) (by omega)) (by omega)) hFz)⟩
set_option maxRecDepth 100000 in
set_option maxHeartbeats 4000000 in
theorem k_X9_ray {G : aG} {d : Nat} (hd : 8 ≤ d) {x ac ar rr cr ta tm mk md on ot lo hi : Nat} {S : aS} {nc : Nat} {h : aH} (hC : CRel x ac ar rr cr ta tm mk md on ot lo hi S h) (hS : SOk nc S) {c : Int} : MC G mX9_ray d 2 265 [vA x, vI c] h (COut x ac ar rr cr ta tm mk md on ot lo hi h vI (oRay c S)) := by
  obtain ⟨⟨o1, o2, o3, o4, o5, o6, o7, o8, o9, oA, oB, oC, oD⟩, hx, ⟨fc, hac, hcs⟩, ⟨fr, har, hrw⟩, ⟨cm, hrr, hcr, hcm⟩, ⟨gt, hta, htm, htl⟩, hmk, ⟨gm, hmd⟩, ⟨g1, hon⟩, ⟨g2, hot⟩⟩ := id hC
  obtain ⟨⟨s1, s2⟩, s3, ⟨s4, s5⟩, ⟨s6, s7, s8⟩, s9, ⟨s10, s11⟩, s12⟩ := id hS
  refine MC.of (by decide) (Nat.le_of_ble_eq_true rfl) (fun ok okh => ?_)
  show EX G mX9_ray d 2 265 _ 0 [(0, vA x), (1, vI c)] [] h 0 0
  refine x_iload_n 1 dX9_ray_0 rfl rfl ?_
  refine x_if_lt 10 dX9_ray_1 (by decide) (fun c_1 => ?_) (fun c_1 => ?_)
  · refine x_aload_n 0 dX9_ray_10 rfl rfl ?_
    refine x_iconst dX9_ray_11 (okI_c rfl) ?_
    refine x_callV [vI ((-1))] dX9_ray_12 kv_X9_59 rfl rfl hx (by omega) (Nat.le_of_ble_eq_true rfl) (by omega) (by omega) (k_X9_refused (d := 0) (S := S)  (hC)) (fun r1 h1 q1 => ?_)
    obtain ⟨rfl, hCz, hFz⟩ := q1
    exact x_ireturn dX9_ray_15 rfl (by omega) (by omega) (outC (by rw [oRay, if_pos (by omega)]; rfl) hCz (Fr.trans Fr.refl hFz))
  · refine x_iload_n 1 dX9_ray_4 rfl rfl ?_
    refine x_ldc (n := 1000000000) dX9_ray_5 (okI_c rfl) kc_X9_73 ?_
    refine x_icmp_le 16 dX9_ray_7 (by decide) (fun c_7 => ?_) (fun c_7 => ?_)
    · refine x_aload_n 0 dX9_ray_16 rfl rfl ?_
      refine x_get 1 dX9_ray_17 fl_X9_15 hx rfl ?_
      refine x_aload_n 0 dX9_ray_20 rfl rfl ?_
      refine x_get 0 dX9_ray_21 fl_X9_11 hx rfl ?_
      refine x_alenR dX9_ray_24 hac (by omega) ?_
      refine x_icmp_lt 35 dX9_ray_25 (by decide) (fun c_25 => ?_) (fun c_25 => ?_)
      · refine x_aload_n 0 dX9_ray_35 rfl rfl ?_
        refine x_aload_n 0 dX9_ray_36 rfl rfl ?_
        refine x_get 8 dX9_ray_37 fl_X9_50 hx rfl ?_
        refine x_iload_n 1 dX9_ray_40 rfl rfl ?_
        refine x_callV [vI c] dX9_ray_41 kv_X9_86 rfl rfl hmk (by omega) (Nat.le_of_ble_eq_true rfl) (by omega) (by omega) (k_X3_straight (d := 7) (by omega) ⟨hmk, hmd, hon, hot, o9, oA⟩ (c := c) (by omega) (by omega)) (fun r1 h1 q1 => ?_)
        obtain ⟨h2, hsc, hor⟩ := q1
        obtain ⟨hC2, hF2⟩ := hC.scr hsc
        rcases hor with ⟨rfl, e2, hno⟩ | ⟨T, D, C, hyes, hnew⟩
        · rw [e2]
          show EX G mX9_ray d 2 265 _ _ _ [vN, vA x] _ _ _
          refine x_callV [vN] dX9_ray_44 kv_X9_82 rfl rfl hC2.2.1 (by omega) (Nat.le_of_ble_eq_true rfl) (by omega) (by omega) (k_X9_kept_no (d := 1) (by omega) hC2) (fun r3 h3 q3 => ?_)
          obtain ⟨rfl, hCz, hFz⟩ := q3
          exact x_ireturn dX9_ray_47 rfl (by omega) (by omega) (outC (by rw [oRay, if_neg (by omega), if_neg (show ¬ 60 ≤ sCu S by omega)]; exact mkO_no hno) hCz (Fr.trans hF2 hFz))
        · obtain ⟨c9, rfl, hC3, hF3, hce⟩ := hC2.newc hnew
          show EX G mX9_ray d 2 265 _ _ _ [vA c9, vA x] _ _ _
          refine x_callV [vA c9] dX9_ray_44 kv_X9_82 rfl rfl hC3.2.1 (by omega) (Nat.le_of_ble_eq_true rfl) (by omega) (by omega) (k_X9_kept (d := 1) (by omega) hC3 s1 (by omega) hce) (fun r3 h3 q3 => ?_)
          obtain ⟨rfl, hCz, hFz⟩ := q3
          exact x_ireturn dX9_ray_47 rfl (by omega) (by omega) (outC (by rw [oRay, if_neg (by omega), if_neg (show ¬ 60 ≤ sCu S by omega)]; exact mkO_yes hyes) hCz (Fr.trans (hF2.trans hF3) hFz))
      · refine x_aload_n 0 dX9_ray_28 rfl rfl ?_
        refine x_bipush dX9_ray_29 (okI_c rfl) (by decide +kernel) ?_
        refine x_callV [vI ((-3))] dX9_ray_31 kv_X9_59 rfl rfl hx (by omega) (Nat.le_of_ble_eq_true rfl) (by omega) (by omega) (k_X9_refused (d := 0) (S := S)  (hC)) (fun r1 h1 q1 => ?_)
        obtain ⟨rfl, hCz, hFz⟩ := q1
        exact x_ireturn dX9_ray_34 rfl (by omega) (by omega) (outC (by rw [oRay, if_neg (by omega), if_pos (by omega)]; rfl) hCz (Fr.trans Fr.refl hFz))
    · refine x_aload_n 0 dX9_ray_10 rfl rfl ?_
      refine x_iconst dX9_ray_11 (okI_c rfl) ?_
      refine x_callV [vI ((-1))] dX9_ray_12 kv_X9_59 rfl rfl hx (by omega) (Nat.le_of_ble_eq_true rfl) (by omega) (by omega) (k_X9_refused (d := 0) (S := S)  (hC)) (fun r1 h1 q1 => ?_)
      obtain ⟨rfl, hCz, hFz⟩ := q1
      exact x_ireturn dX9_ray_15 rfl (by omega) (by omega) (outC (by rw [oRay, if_pos (by omega)]; rfl) hCz (Fr.trans Fr.refl hFz))
set_option maxRecDepth 100000 in
set_option maxHeartbeats 4000000 in
theorem k_X9_times {G : aG} {d : Nat} (hd : 8 ≤ d) {x ac ar rr cr ta tm mk md on ot lo hi : Nat} {S : aS} {nc : Nat} {h : aH} (hC : CRel x ac ar rr cr ta tm mk md on ot lo hi S h) (hS : SOk nc S) {f : Int} {n : Int} : MC G mX9_times d 2 265 [vA x, vI f, vI n] h (COut x ac ar rr cr ta tm mk md on ot lo hi h vI (oTimes f n S)) := by
  obtain ⟨⟨o1, o2, o3, o4, o5, o6, o7, o8, o9, oA, oB, oC, oD⟩, hx, ⟨fc, hac, hcs⟩, ⟨fr, har, hrw⟩, ⟨cm, hrr, hcr, hcm⟩, ⟨gt, hta, htm, htl⟩, hmk, ⟨gm, hmd⟩, ⟨g1, hon⟩, ⟨g2, hot⟩⟩ := id hC
  obtain ⟨⟨s1, s2⟩, s3, ⟨s4, s5⟩, ⟨s6, s7, s8⟩, s9, ⟨s10, s11⟩, s12⟩ := id hS
  refine MC.of (by decide) (Nat.le_of_ble_eq_true rfl) (fun ok okh => ?_)
  show EX G mX9_times d 2 265 _ 0 [(0, vA x), (1, vI f), (2, vI n)] [] h 0 0
  refine x_aload_n 0 dX9_times_0 rfl rfl ?_
  refine x_iload_n 1 dX9_times_1 rfl rfl ?_
  refine x_callV [vI f] dX9_times_2 kv_X9_90 rfl rfl hx (by omega) (Nat.le_of_ble_eq_true rfl) (by omega) (by omega) (k_X9_curveNumbered (d := 0) hC hS (f := f)) (fun r1 h1 q1 => ?_)
  rcases q1 with ⟨e2, hn1, rfl⟩ | ⟨e2, hf1, c1, ci1, a1, am1, ld1, rfl, hcx1⟩
  · rw [e2]
    show EX G mX9_times d 2 265 _ _ _ [vN] _ _ _
    refine x_astorer_n (L' := [(3, vN), (0, vA x), (1, vI f), (2, vI n)]) dX9_times_5 rfl (Nat.le_of_ble_eq_true rfl) rfl ?_
    refine x_aloadr_n 0 dX9_times_6 rfl rfl ?_
    refine x_ifnull (r := none) 21 dX9_times_7 (by decide) (fun _ => ?_) (fun z => nomatch z)
    refine x_aload_n 1 dX9_times_21 rfl rfl ?_
    refine x_iconst dX9_times_22 (okI_c rfl) ?_
    refine x_callV [vI ((-1))] dX9_times_23 kv_X9_59 rfl rfl hx (by omega) (Nat.le_of_ble_eq_true rfl) (by omega) (by omega) (k_X9_refused (d := 0) (S := S)  (hC)) (fun r1 h1 q1 => ?_)
    obtain ⟨rfl, hCz, hFz⟩ := q1
    exact x_ireturn dX9_times_26 rfl (by omega) (by omega) (outC (by rw [oTimes, cond_t (by first | exact Or.inl hn1 | exact Or.inr (by omega))]; rfl) hCz (Fr.trans Fr.refl hFz))
  · rw [e2]
    obtain ⟨hcv1, hki1, hok1, hF1, hK1, hL1, hi1, ha1⟩ := id hcx1
    show EX G mX9_times d 2 265 _ _ _ [vA c1] _ _ _
    refine x_astore_n (L' := [(3, vA c1), (0, vA x), (1, vI f), (2, vI n)]) dX9_times_5 rfl (Nat.le_of_ble_eq_true rfl) rfl ?_
    refine x_aload_n 0 dX9_times_6 rfl rfl ?_
    refine x_ifnull (r := some c1) 21 dX9_times_7 (by decide) (fun z => nomatch z) (fun _ => ?_)
    refine x_iload_n 3 dX9_times_10 rfl rfl ?_
    refine x_if_lt 21 dX9_times_11 (by decide) (fun c_11 => ?_) (fun c_11 => ?_)
    · refine x_aload_n 1 dX9_times_21 rfl rfl ?_
      refine x_iconst dX9_times_22 (okI_c rfl) ?_
      refine x_callV [vI ((-1))] dX9_times_23 kv_X9_59 rfl rfl hx (by omega) (Nat.le_of_ble_eq_true rfl) (by omega) (by omega) (k_X9_refused (d := 0) (S := S)  (hC)) (fun r1 h1 q1 => ?_)
      obtain ⟨rfl, hCz, hFz⟩ := q1
      exact x_ireturn dX9_times_26 rfl (by omega) (by omega) (outC (by rw [oTimes, cond_t (by first | exact Or.inl hn1 | exact Or.inr (by omega))]; rfl) hCz (Fr.trans Fr.refl hFz))
    · refine x_iload_n 3 dX9_times_14 rfl rfl ?_
      refine x_sipush dX9_times_15 (okI_c rfl) (by decide +kernel) ?_
      refine x_icmp_le 27 dX9_times_18 (by decide) (fun c_18 => ?_) (fun c_18 => ?_)
      · refine x_aload_n 1 dX9_times_27 rfl rfl ?_
        refine x_get 1 dX9_times_28 fl_X9_15 hx rfl ?_
        refine x_aload_n 1 dX9_times_31 rfl rfl ?_
        refine x_get 0 dX9_times_32 fl_X9_11 hx rfl ?_
        refine x_alenR dX9_times_35 hac (by omega) ?_
        refine x_icmp_lt 46 dX9_times_36 (by decide) (fun c_36 => ?_) (fun c_36 => ?_)
        · refine x_aload_n 1 dX9_times_46 rfl rfl ?_
          refine x_aload_n 1 dX9_times_47 rfl rfl ?_
          refine x_get 8 dX9_times_48 fl_X9_50 hx rfl ?_
          refine x_aload_n 0 dX9_times_51 rfl rfl ?_
          refine x_iload_n 3 dX9_times_52 rfl rfl ?_
          refine x_callV [vA c1, vI n] dX9_times_53 kv_X9_107 rfl rfl hmk (by omega) (Nat.le_of_ble_eq_true rfl) (by omega) (by omega) (k_X3_multiplied (d := 7) (by omega) ⟨hmk, hmd, hon, hot, o9, oA⟩ hcv1 hok1 (by omega) (n := n) (by omega) (by omega)) (fun r1 h1 q1 => ?_)
          rw [hF1] at q1
          obtain ⟨h2, hsc, hor⟩ := q1
          obtain ⟨hC2, hF2⟩ := hC.scr hsc
          rcases hor with ⟨rfl, e2, hno⟩ | ⟨T, D, C, hyes, hnew⟩
          · rw [e2]
            show EX G mX9_times d 2 265 _ _ _ [vN, vA x] _ _ _
            refine x_callV [vN] dX9_times_56 kv_X9_82 rfl rfl hC2.2.1 (by omega) (Nat.le_of_ble_eq_true rfl) (by omega) (by omega) (k_X9_kept_no (d := 1) (by omega) hC2) (fun r3 h3 q3 => ?_)
            obtain ⟨rfl, hCz, hFz⟩ := q3
            exact x_ireturn dX9_times_59 rfl (by omega) (by omega) (outC (by rw [oTimes, cond_f (fun z => z.elim (fun y => y hf1) (fun y => by omega)), if_neg (show ¬ 60 ≤ sCu S by omega)]; exact mkO_no hno) hCz (Fr.trans hF2 hFz))
          · obtain ⟨c9, rfl, hC3, hF3, hce⟩ := hC2.newc hnew
            show EX G mX9_times d 2 265 _ _ _ [vA c9, vA x] _ _ _
            refine x_callV [vA c9] dX9_times_56 kv_X9_82 rfl rfl hC3.2.1 (by omega) (Nat.le_of_ble_eq_true rfl) (by omega) (by omega) (k_X9_kept (d := 1) (by omega) hC3 s1 (by omega) hce) (fun r3 h3 q3 => ?_)
            obtain ⟨rfl, hCz, hFz⟩ := q3
            exact x_ireturn dX9_times_59 rfl (by omega) (by omega) (outC (by rw [oTimes, cond_f (fun z => z.elim (fun y => y hf1) (fun y => by omega)), if_neg (show ¬ 60 ≤ sCu S by omega)]; exact mkO_yes hyes) hCz (Fr.trans (hF2.trans hF3) hFz))
        · refine x_aload_n 1 dX9_times_39 rfl rfl ?_
          refine x_bipush dX9_times_40 (okI_c rfl) (by decide +kernel) ?_
          refine x_callV [vI ((-3))] dX9_times_42 kv_X9_59 rfl rfl hx (by omega) (Nat.le_of_ble_eq_true rfl) (by omega) (by omega) (k_X9_refused (d := 0) (S := S)  (hC)) (fun r1 h1 q1 => ?_)
          obtain ⟨rfl, hCz, hFz⟩ := q1
          exact x_ireturn dX9_times_45 rfl (by omega) (by omega) (outC (by rw [oTimes, cond_f (fun z => z.elim (fun y => y hf1) (fun y => by omega)), if_pos (by omega)]; rfl) hCz (Fr.trans Fr.refl hFz))
      · refine x_aload_n 1 dX9_times_21 rfl rfl ?_
        refine x_iconst dX9_times_22 (okI_c rfl) ?_
        refine x_callV [vI ((-1))] dX9_times_23 kv_X9_59 rfl rfl hx (by omega) (Nat.le_of_ble_eq_true rfl) (by omega) (by omega) (k_X9_refused (d := 0) (S := S)  (hC)) (fun r1 h1 q1 => ?_)
        obtain ⟨rfl, hCz, hFz⟩ := q1
        exact x_ireturn dX9_times_26 rfl (by omega) (by omega) (outC (by rw [oTimes, cond_t (by first | exact Or.inl hn1 | exact Or.inr (by omega))]; rfl) hCz (Fr.trans Fr.refl hFz))
set_option maxRecDepth 100000 in
set_option maxHeartbeats 4000000 in
theorem k_X9_shift {G : aG} {d : Nat} (hd : 8 ≤ d) {x ac ar rr cr ta tm mk md on ot lo hi : Nat} {S : aS} {nc : Nat} {h : aH} (hC : CRel x ac ar rr cr ta tm mk md on ot lo hi S h) (hS : SOk nc S) {f : Int} {n : Int} : MC G mX9_shift d 2 265 [vA x, vI f, vI n] h (COut x ac ar rr cr ta tm mk md on ot lo hi h vI (oShift f n S)) := by
  obtain ⟨⟨o1, o2, o3, o4, o5, o6, o7, o8, o9, oA, oB, oC, oD⟩, hx, ⟨fc, hac, hcs⟩, ⟨fr, har, hrw⟩, ⟨cm, hrr, hcr, hcm⟩, ⟨gt, hta, htm, htl⟩, hmk, ⟨gm, hmd⟩, ⟨g1, hon⟩, ⟨g2, hot⟩⟩ := id hC
  obtain ⟨⟨s1, s2⟩, s3, ⟨s4, s5⟩, ⟨s6, s7, s8⟩, s9, ⟨s10, s11⟩, s12⟩ := id hS
  refine MC.of (by decide) (Nat.le_of_ble_eq_true rfl) (fun ok okh => ?_)
  show EX G mX9_shift d 2 265 _ 0 [(0, vA x), (1, vI f), (2, vI n)] [] h 0 0
  refine x_aload_n 0 dX9_shift_0 rfl rfl ?_
  refine x_iload_n 1 dX9_shift_1 rfl rfl ?_
  refine x_callV [vI f] dX9_shift_2 kv_X9_90 rfl rfl hx (by omega) (Nat.le_of_ble_eq_true rfl) (by omega) (by omega) (k_X9_curveNumbered (d := 0) hC hS (f := f)) (fun r1 h1 q1 => ?_)
  rcases q1 with ⟨e2, hn1, rfl⟩ | ⟨e2, hf1, c1, ci1, a1, am1, ld1, rfl, hcx1⟩
  · rw [e2]
    show EX G mX9_shift d 2 265 _ _ _ [vN] _ _ _
    refine x_astorer_n (L' := [(3, vN), (0, vA x), (1, vI f), (2, vI n)]) dX9_shift_5 rfl (Nat.le_of_ble_eq_true rfl) rfl ?_
    refine x_aloadr_n 0 dX9_shift_6 rfl rfl ?_
    refine x_ifnull (r := none) 21 dX9_shift_7 (by decide) (fun _ => ?_) (fun z => nomatch z)
    refine x_aload_n 1 dX9_shift_21 rfl rfl ?_
    refine x_iconst dX9_shift_22 (okI_c rfl) ?_
    refine x_callV [vI ((-1))] dX9_shift_23 kv_X9_59 rfl rfl hx (by omega) (Nat.le_of_ble_eq_true rfl) (by omega) (by omega) (k_X9_refused (d := 0) (S := S)  (hC)) (fun r1 h1 q1 => ?_)
    obtain ⟨rfl, hCz, hFz⟩ := q1
    exact x_ireturn dX9_shift_26 rfl (by omega) (by omega) (outC (by rw [oShift, cond_t (by first | exact Or.inl hn1 | exact Or.inr (by omega))]; rfl) hCz (Fr.trans Fr.refl hFz))
  · rw [e2]
    obtain ⟨hcv1, hki1, hok1, hF1, hK1, hL1, hi1, ha1⟩ := id hcx1
    show EX G mX9_shift d 2 265 _ _ _ [vA c1] _ _ _
    refine x_astore_n (L' := [(3, vA c1), (0, vA x), (1, vI f), (2, vI n)]) dX9_shift_5 rfl (Nat.le_of_ble_eq_true rfl) rfl ?_
    refine x_aload_n 0 dX9_shift_6 rfl rfl ?_
    refine x_ifnull (r := some c1) 21 dX9_shift_7 (by decide) (fun z => nomatch z) (fun _ => ?_)
    refine x_iload_n 3 dX9_shift_10 rfl rfl ?_
    refine x_if_lt 21 dX9_shift_11 (by decide) (fun c_11 => ?_) (fun c_11 => ?_)
    · refine x_aload_n 1 dX9_shift_21 rfl rfl ?_
      refine x_iconst dX9_shift_22 (okI_c rfl) ?_
      refine x_callV [vI ((-1))] dX9_shift_23 kv_X9_59 rfl rfl hx (by omega) (Nat.le_of_ble_eq_true rfl) (by omega) (by omega) (k_X9_refused (d := 0) (S := S)  (hC)) (fun r1 h1 q1 => ?_)
      obtain ⟨rfl, hCz, hFz⟩ := q1
      exact x_ireturn dX9_shift_26 rfl (by omega) (by omega) (outC (by rw [oShift, cond_t (by first | exact Or.inl hn1 | exact Or.inr (by omega))]; rfl) hCz (Fr.trans Fr.refl hFz))
    · refine x_iload_n 3 dX9_shift_14 rfl rfl ?_
      refine x_sipush dX9_shift_15 (okI_c rfl) (by decide +kernel) ?_
      refine x_icmp_le 27 dX9_shift_18 (by decide) (fun c_18 => ?_) (fun c_18 => ?_)
      · refine x_aload_n 1 dX9_shift_27 rfl rfl ?_
        refine x_get 1 dX9_shift_28 fl_X9_15 hx rfl ?_
        refine x_aload_n 1 dX9_shift_31 rfl rfl ?_
        refine x_get 0 dX9_shift_32 fl_X9_11 hx rfl ?_
        refine x_alenR dX9_shift_35 hac (by omega) ?_
        refine x_icmp_lt 46 dX9_shift_36 (by decide) (fun c_36 => ?_) (fun c_36 => ?_)
        · refine x_aload_n 1 dX9_shift_46 rfl rfl ?_
          refine x_aload_n 1 dX9_shift_47 rfl rfl ?_
          refine x_get 8 dX9_shift_48 fl_X9_50 hx rfl ?_
          refine x_aload_n 0 dX9_shift_51 rfl rfl ?_
          refine x_iload_n 3 dX9_shift_52 rfl rfl ?_
          refine x_callV [vA c1, vI n] dX9_shift_53 kv_X9_111 rfl rfl hmk (by omega) (Nat.le_of_ble_eq_true rfl) (by omega) (by omega) (k_X3_delayed (d := 7) (by omega) ⟨hmk, hmd, hon, hot, o9, oA⟩ hcv1 hok1 (by omega) (n := n) (by omega) (by omega)) (fun r1 h1 q1 => ?_)
          rw [hF1] at q1
          obtain ⟨h2, hsc, hor⟩ := q1
          obtain ⟨hC2, hF2⟩ := hC.scr hsc
          rcases hor with ⟨rfl, e2, hno⟩ | ⟨T, D, C, hyes, hnew⟩
          · rw [e2]
            show EX G mX9_shift d 2 265 _ _ _ [vN, vA x] _ _ _
            refine x_callV [vN] dX9_shift_56 kv_X9_82 rfl rfl hC2.2.1 (by omega) (Nat.le_of_ble_eq_true rfl) (by omega) (by omega) (k_X9_kept_no (d := 1) (by omega) hC2) (fun r3 h3 q3 => ?_)
            obtain ⟨rfl, hCz, hFz⟩ := q3
            exact x_ireturn dX9_shift_59 rfl (by omega) (by omega) (outC (by rw [oShift, cond_f (fun z => z.elim (fun y => y hf1) (fun y => by omega)), if_neg (show ¬ 60 ≤ sCu S by omega)]; exact mkO_no hno) hCz (Fr.trans hF2 hFz))
          · obtain ⟨c9, rfl, hC3, hF3, hce⟩ := hC2.newc hnew
            show EX G mX9_shift d 2 265 _ _ _ [vA c9, vA x] _ _ _
            refine x_callV [vA c9] dX9_shift_56 kv_X9_82 rfl rfl hC3.2.1 (by omega) (Nat.le_of_ble_eq_true rfl) (by omega) (by omega) (k_X9_kept (d := 1) (by omega) hC3 s1 (by omega) hce) (fun r3 h3 q3 => ?_)
            obtain ⟨rfl, hCz, hFz⟩ := q3
            exact x_ireturn dX9_shift_59 rfl (by omega) (by omega) (outC (by rw [oShift, cond_f (fun z => z.elim (fun y => y hf1) (fun y => by omega)), if_neg (show ¬ 60 ≤ sCu S by omega)]; exact mkO_yes hyes) hCz (Fr.trans (hF2.trans hF3) hFz))
        · refine x_aload_n 1 dX9_shift_39 rfl rfl ?_
          refine x_bipush dX9_shift_40 (okI_c rfl) (by decide +kernel) ?_
          refine x_callV [vI ((-3))] dX9_shift_42 kv_X9_59 rfl rfl hx (by omega) (Nat.le_of_ble_eq_true rfl) (by omega) (by omega) (k_X9_refused (d := 0) (S := S)  (hC)) (fun r1 h1 q1 => ?_)
          obtain ⟨rfl, hCz, hFz⟩ := q1
          exact x_ireturn dX9_shift_45 rfl (by omega) (by omega) (outC (by rw [oShift, cond_f (fun z => z.elim (fun y => y hf1) (fun y => by omega)), if_pos (by omega)]; rfl) hCz (Fr.trans Fr.refl hFz))
      · refine x_aload_n 1 dX9_shift_21 rfl rfl ?_
        refine x_iconst dX9_shift_22 (okI_c rfl) ?_
        refine x_callV [vI ((-1))] dX9_shift_23 kv_X9_59 rfl rfl hx (by omega) (Nat.le_of_ble_eq_true rfl) (by omega) (by omega) (k_X9_refused (d := 0) (S := S)  (hC)) (fun r1 h1 q1 => ?_)
        obtain ⟨rfl, hCz, hFz⟩ := q1
        exact x_ireturn dX9_shift_26 rfl (by omega) (by omega) (outC (by rw [oShift, cond_t (by first | exact Or.inl hn1 | exact Or.inr (by omega))]; rfl) hCz (Fr.trans Fr.refl hFz))
set_option maxRecDepth 100000 in
set_option maxHeartbeats 4000000 in
theorem k_X9_of {G : aG} {d : Nat} (hd : 8 ≤ d) {x ac ar rr cr ta tm mk md on ot lo hi : Nat} {S : aS} {nc : Nat} {h : aH} (hC : CRel x ac ar rr cr ta tm mk md on ot lo hi S h) (hS : SOk nc S) {w : Int} {f : Int} {g : Int} : MC G mX9_of d 2 265 [vA x, vI w, vI f, vI g] h (COut x ac ar rr cr ta tm mk md on ot lo hi h vI (oOf w f g S)) := by
  obtain ⟨⟨o1, o2, o3, o4, o5, o6, o7, o8, o9, oA, oB, oC, oD⟩, hx, ⟨fc, hac, hcs⟩, ⟨fr, har, hrw⟩, ⟨cm, hrr, hcr, hcm⟩, ⟨gt, hta, htm, htl⟩, hmk, ⟨gm, hmd⟩, ⟨g1, hon⟩, ⟨g2, hot⟩⟩ := id hC
  obtain ⟨⟨s1, s2⟩, s3, ⟨s4, s5⟩, ⟨s6, s7, s8⟩, s9, ⟨s10, s11⟩, s12⟩ := id hS
  refine MC.of (by decide) (Nat.le_of_ble_eq_true rfl) (fun ok okh => ?_)
  show EX G mX9_of d 2 265 _ 0 [(0, vA x), (1, vI w), (2, vI f), (3, vI g)] [] h 0 0
  refine x_aload_n 0 dX9_of_0 rfl rfl ?_
  refine x_iload_n 2 dX9_of_1 rfl rfl ?_
  refine x_callV [vI f] dX9_of_2 kv_X9_90 rfl rfl hx (by omega) (Nat.le_of_ble_eq_true rfl) (by omega) (by omega) (k_X9_curveNumbered (d := 0) hC hS (f := f)) (fun r1 h1 q1 => ?_)
  rcases q1 with ⟨e2, hn1, rfl⟩ | ⟨e2, hf1, c1, ci1, a1, am1, ld1, rfl, hcx1⟩
  · rw [e2]
    show EX G mX9_of d 2 265 _ _ _ [vN] _ _ _
    refine x_astorer (L' := [(4, vN), (0, vA x), (1, vI w), (2, vI f), (3, vI g)]) dX9_of_5 (Nat.le_of_ble_eq_true rfl) rfl ?_
    refine x_aload_n 1 dX9_of_7 rfl rfl ?_
    refine x_iload_n 4 dX9_of_8 rfl rfl ?_
    refine x_callV [vI g] dX9_of_9 kv_X9_90 rfl rfl hx (by omega) (Nat.le_of_ble_eq_true rfl) (by omega) (by omega) (k_X9_curveNumbered (d := 0) hC hS (f := g)) (fun r1 h1 q1 => ?_)
    rcases q1 with ⟨e2, hn2, rfl⟩ | ⟨e2, hf2, c2, ci2, a2, am2, ld2, rfl, hcx2⟩
    · rw [e2]
      show EX G mX9_of d 2 265 _ _ _ [vN] _ _ _
      refine x_astorer (L' := [(5, vN), (4, vN), (0, vA x), (1, vI w), (2, vI f), (3, vI g)]) dX9_of_12 (Nat.le_of_ble_eq_true rfl) rfl ?_
      refine x_iload_n 3 dX9_of_14 rfl rfl ?_
      refine x_if_lt 33 dX9_of_15 (by decide) (fun c_15 => ?_) (fun c_15 => ?_)
      · refine x_aload_n 2 dX9_of_33 rfl rfl ?_
        refine x_iconst dX9_of_34 (okI_c rfl) ?_
        refine x_callV [vI ((-1))] dX9_of_35 kv_X9_59 rfl rfl hx (by omega) (Nat.le_of_ble_eq_true rfl) (by omega) (by omega) (k_X9_refused (d := 0) (S := S)  (hC)) (fun r1 h1 q1 => ?_)
        obtain ⟨rfl, hCz, hFz⟩ := q1
        exact x_ireturn dX9_of_38 rfl (by omega) (by omega) (outC (by rw [oOf, cond_t (by first | exact Or.inl (by omega) | exact Or.inr (Or.inl hn1) | exact Or.inr (Or.inr hn2))]; rfl) hCz (Fr.trans Fr.refl hFz))
      · refine x_iload_n 3 dX9_of_18 rfl rfl ?_
        refine x_iconst dX9_of_19 (okI_c rfl) ?_
        refine x_icmp_gt 33 dX9_of_20 (by decide) (fun c_20 => ?_) (fun c_20 => ?_)
        · refine x_aload_n 2 dX9_of_33 rfl rfl ?_
          refine x_iconst dX9_of_34 (okI_c rfl) ?_
          refine x_callV [vI ((-1))] dX9_of_35 kv_X9_59 rfl rfl hx (by omega) (Nat.le_of_ble_eq_true rfl) (by omega) (by omega) (k_X9_refused (d := 0) (S := S)  (hC)) (fun r1 h1 q1 => ?_)
          obtain ⟨rfl, hCz, hFz⟩ := q1
          exact x_ireturn dX9_of_38 rfl (by omega) (by omega) (outC (by rw [oOf, cond_t (by first | exact Or.inl (by omega) | exact Or.inr (Or.inl hn1) | exact Or.inr (Or.inr hn2))]; rfl) hCz (Fr.trans Fr.refl hFz))
        · refine x_aloadr 1 dX9_of_23 rfl ?_
          refine x_ifnull (r := none) 33 dX9_of_25 (by decide) (fun _ => ?_) (fun z => nomatch z)
          refine x_aload_n 2 dX9_of_33 rfl rfl ?_
          refine x_iconst dX9_of_34 (okI_c rfl) ?_
          refine x_callV [vI ((-1))] dX9_of_35 kv_X9_59 rfl rfl hx (by omega) (Nat.le_of_ble_eq_true rfl) (by omega) (by omega) (k_X9_refused (d := 0) (S := S)  (hC)) (fun r1 h1 q1 => ?_)
          obtain ⟨rfl, hCz, hFz⟩ := q1
          exact x_ireturn dX9_of_38 rfl (by omega) (by omega) (outC (by rw [oOf, cond_t (by first | exact Or.inl (by omega) | exact Or.inr (Or.inl hn1) | exact Or.inr (Or.inr hn2))]; rfl) hCz (Fr.trans Fr.refl hFz))
    · rw [e2]
      obtain ⟨hcv2, hki2, hok2, hF2, hK2, hL2, hi2, ha2⟩ := id hcx2
      show EX G mX9_of d 2 265 _ _ _ [vA c2] _ _ _
      refine x_astore (L' := [(5, vA c2), (4, vN), (0, vA x), (1, vI w), (2, vI f), (3, vI g)]) dX9_of_12 (Nat.le_of_ble_eq_true rfl) rfl ?_
      refine x_iload_n 3 dX9_of_14 rfl rfl ?_
      refine x_if_lt 33 dX9_of_15 (by decide) (fun c_15 => ?_) (fun c_15 => ?_)
      · refine x_aload_n 2 dX9_of_33 rfl rfl ?_
        refine x_iconst dX9_of_34 (okI_c rfl) ?_
        refine x_callV [vI ((-1))] dX9_of_35 kv_X9_59 rfl rfl hx (by omega) (Nat.le_of_ble_eq_true rfl) (by omega) (by omega) (k_X9_refused (d := 0) (S := S)  (hC)) (fun r1 h1 q1 => ?_)
        obtain ⟨rfl, hCz, hFz⟩ := q1
        exact x_ireturn dX9_of_38 rfl (by omega) (by omega) (outC (by rw [oOf, cond_t (by first | exact Or.inl (by omega) | exact Or.inr (Or.inl hn1) | exact Or.inr (Or.inr hn2))]; rfl) hCz (Fr.trans Fr.refl hFz))
      · refine x_iload_n 3 dX9_of_18 rfl rfl ?_
        refine x_iconst dX9_of_19 (okI_c rfl) ?_
        refine x_icmp_gt 33 dX9_of_20 (by decide) (fun c_20 => ?_) (fun c_20 => ?_)
        · refine x_aload_n 2 dX9_of_33 rfl rfl ?_
          refine x_iconst dX9_of_34 (okI_c rfl) ?_
          refine x_callV [vI ((-1))] dX9_of_35 kv_X9_59 rfl rfl hx (by omega) (Nat.le_of_ble_eq_true rfl) (by omega) (by omega) (k_X9_refused (d := 0) (S := S)  (hC)) (fun r1 h1 q1 => ?_)
          obtain ⟨rfl, hCz, hFz⟩ := q1
          exact x_ireturn dX9_of_38 rfl (by omega) (by omega) (outC (by rw [oOf, cond_t (by first | exact Or.inl (by omega) | exact Or.inr (Or.inl hn1) | exact Or.inr (Or.inr hn2))]; rfl) hCz (Fr.trans Fr.refl hFz))
        · refine x_aloadr 1 dX9_of_23 rfl ?_
          refine x_ifnull (r := none) 33 dX9_of_25 (by decide) (fun _ => ?_) (fun z => nomatch z)
          refine x_aload_n 2 dX9_of_33 rfl rfl ?_
          refine x_iconst dX9_of_34 (okI_c rfl) ?_
          refine x_callV [vI ((-1))] dX9_of_35 kv_X9_59 rfl rfl hx (by omega) (Nat.le_of_ble_eq_true rfl) (by omega) (by omega) (k_X9_refused (d := 0) (S := S)  (hC)) (fun r1 h1 q1 => ?_)
          obtain ⟨rfl, hCz, hFz⟩ := q1
          exact x_ireturn dX9_of_38 rfl (by omega) (by omega) (outC (by rw [oOf, cond_t (by first | exact Or.inl (by omega) | exact Or.inr (Or.inl hn1) | exact Or.inr (Or.inr hn2))]; rfl) hCz (Fr.trans Fr.refl hFz))
  · rw [e2]
    obtain ⟨hcv1, hki1, hok1, hF1, hK1, hL1, hi1, ha1⟩ := id hcx1
    show EX G mX9_of d 2 265 _ _ _ [vA c1] _ _ _
    refine x_astore (L' := [(4, vA c1), (0, vA x), (1, vI w), (2, vI f), (3, vI g)]) dX9_of_5 (Nat.le_of_ble_eq_true rfl) rfl ?_
    refine x_aload_n 1 dX9_of_7 rfl rfl ?_
    refine x_iload_n 4 dX9_of_8 rfl rfl ?_
    refine x_callV [vI g] dX9_of_9 kv_X9_90 rfl rfl hx (by omega) (Nat.le_of_ble_eq_true rfl) (by omega) (by omega) (k_X9_curveNumbered (d := 0) hC hS (f := g)) (fun r1 h1 q1 => ?_)
    rcases q1 with ⟨e2, hn2, rfl⟩ | ⟨e2, hf2, c2, ci2, a2, am2, ld2, rfl, hcx2⟩
    · rw [e2]
      show EX G mX9_of d 2 265 _ _ _ [vN] _ _ _
      refine x_astorer (L' := [(5, vN), (4, vA c1), (0, vA x), (1, vI w), (2, vI f), (3, vI g)]) dX9_of_12 (Nat.le_of_ble_eq_true rfl) rfl ?_
      refine x_iload_n 3 dX9_of_14 rfl rfl ?_
      refine x_if_lt 33 dX9_of_15 (by decide) (fun c_15 => ?_) (fun c_15 => ?_)
      · refine x_aload_n 2 dX9_of_33 rfl rfl ?_
        refine x_iconst dX9_of_34 (okI_c rfl) ?_
        refine x_callV [vI ((-1))] dX9_of_35 kv_X9_59 rfl rfl hx (by omega) (Nat.le_of_ble_eq_true rfl) (by omega) (by omega) (k_X9_refused (d := 0) (S := S)  (hC)) (fun r1 h1 q1 => ?_)
        obtain ⟨rfl, hCz, hFz⟩ := q1
        exact x_ireturn dX9_of_38 rfl (by omega) (by omega) (outC (by rw [oOf, cond_t (by first | exact Or.inl (by omega) | exact Or.inr (Or.inl hn1) | exact Or.inr (Or.inr hn2))]; rfl) hCz (Fr.trans Fr.refl hFz))
      · refine x_iload_n 3 dX9_of_18 rfl rfl ?_
        refine x_iconst dX9_of_19 (okI_c rfl) ?_
        refine x_icmp_gt 33 dX9_of_20 (by decide) (fun c_20 => ?_) (fun c_20 => ?_)
        · refine x_aload_n 2 dX9_of_33 rfl rfl ?_
          refine x_iconst dX9_of_34 (okI_c rfl) ?_
          refine x_callV [vI ((-1))] dX9_of_35 kv_X9_59 rfl rfl hx (by omega) (Nat.le_of_ble_eq_true rfl) (by omega) (by omega) (k_X9_refused (d := 0) (S := S)  (hC)) (fun r1 h1 q1 => ?_)
          obtain ⟨rfl, hCz, hFz⟩ := q1
          exact x_ireturn dX9_of_38 rfl (by omega) (by omega) (outC (by rw [oOf, cond_t (by first | exact Or.inl (by omega) | exact Or.inr (Or.inl hn1) | exact Or.inr (Or.inr hn2))]; rfl) hCz (Fr.trans Fr.refl hFz))
        · refine x_aload 1 dX9_of_23 rfl ?_
          refine x_ifnull (r := some c1) 33 dX9_of_25 (by decide) (fun z => nomatch z) (fun _ => ?_)
          refine x_aloadr 0 dX9_of_28 rfl ?_
          refine x_ifnonnull (r := none) 39 dX9_of_30 (by decide) (fun z => nomatch z) (fun _ => ?_)
          refine x_aload_n 2 dX9_of_33 rfl rfl ?_
          refine x_iconst dX9_of_34 (okI_c rfl) ?_
          refine x_callV [vI ((-1))] dX9_of_35 kv_X9_59 rfl rfl hx (by omega) (Nat.le_of_ble_eq_true rfl) (by omega) (by omega) (k_X9_refused (d := 0) (S := S)  (hC)) (fun r1 h1 q1 => ?_)
          obtain ⟨rfl, hCz, hFz⟩ := q1
          exact x_ireturn dX9_of_38 rfl (by omega) (by omega) (outC (by rw [oOf, cond_t (by first | exact Or.inl (by omega) | exact Or.inr (Or.inl hn1) | exact Or.inr (Or.inr hn2))]; rfl) hCz (Fr.trans Fr.refl hFz))
    · rw [e2]
      obtain ⟨hcv2, hki2, hok2, hF2, hK2, hL2, hi2, ha2⟩ := id hcx2
      show EX G mX9_of d 2 265 _ _ _ [vA c2] _ _ _
      refine x_astore (L' := [(5, vA c2), (4, vA c1), (0, vA x), (1, vI w), (2, vI f), (3, vI g)]) dX9_of_12 (Nat.le_of_ble_eq_true rfl) rfl ?_
      refine x_iload_n 3 dX9_of_14 rfl rfl ?_
      refine x_if_lt 33 dX9_of_15 (by decide) (fun c_15 => ?_) (fun c_15 => ?_)
      · refine x_aload_n 2 dX9_of_33 rfl rfl ?_
        refine x_iconst dX9_of_34 (okI_c rfl) ?_
        refine x_callV [vI ((-1))] dX9_of_35 kv_X9_59 rfl rfl hx (by omega) (Nat.le_of_ble_eq_true rfl) (by omega) (by omega) (k_X9_refused (d := 0) (S := S)  (hC)) (fun r1 h1 q1 => ?_)
        obtain ⟨rfl, hCz, hFz⟩ := q1
        exact x_ireturn dX9_of_38 rfl (by omega) (by omega) (outC (by rw [oOf, cond_t (by first | exact Or.inl (by omega) | exact Or.inr (Or.inl hn1) | exact Or.inr (Or.inr hn2))]; rfl) hCz (Fr.trans Fr.refl hFz))
      · refine x_iload_n 3 dX9_of_18 rfl rfl ?_
        refine x_iconst dX9_of_19 (okI_c rfl) ?_
        refine x_icmp_gt 33 dX9_of_20 (by decide) (fun c_20 => ?_) (fun c_20 => ?_)
        · refine x_aload_n 2 dX9_of_33 rfl rfl ?_
          refine x_iconst dX9_of_34 (okI_c rfl) ?_
          refine x_callV [vI ((-1))] dX9_of_35 kv_X9_59 rfl rfl hx (by omega) (Nat.le_of_ble_eq_true rfl) (by omega) (by omega) (k_X9_refused (d := 0) (S := S)  (hC)) (fun r1 h1 q1 => ?_)
          obtain ⟨rfl, hCz, hFz⟩ := q1
          exact x_ireturn dX9_of_38 rfl (by omega) (by omega) (outC (by rw [oOf, cond_t (by first | exact Or.inl (by omega) | exact Or.inr (Or.inl hn1) | exact Or.inr (Or.inr hn2))]; rfl) hCz (Fr.trans Fr.refl hFz))
        · refine x_aload 1 dX9_of_23 rfl ?_
          refine x_ifnull (r := some c1) 33 dX9_of_25 (by decide) (fun z => nomatch z) (fun _ => ?_)
          refine x_aload 0 dX9_of_28 rfl ?_
          refine x_ifnonnull (r := some c2) 39 dX9_of_30 (by decide) (fun _ => ?_) (fun z => nomatch z)
          refine x_aload_n 2 dX9_of_39 rfl rfl ?_
          refine x_get 1 dX9_of_40 fl_X9_15 hx rfl ?_
          refine x_aload_n 2 dX9_of_43 rfl rfl ?_
          refine x_get 0 dX9_of_44 fl_X9_11 hx rfl ?_
          refine x_alenR dX9_of_47 hac (by omega) ?_
          refine x_icmp_lt 58 dX9_of_48 (by decide) (fun c_48 => ?_) (fun c_48 => ?_)
          · refine x_aload 1 dX9_of_58 rfl ?_
            refine x_aload 0 dX9_of_60 rfl ?_
            refine x_callS [vA c1, vA c2] dX9_of_62 ks_X9_93 rfl rfl (by omega) (Nat.le_of_ble_eq_true rfl) (by omega) (by omega) (k_X4_commonStep (d := 0) hcv1 hok1 hcv2 hok2) (after_ret ?_)
            refine x_nmI (fun x1 e_x1 => ?_)
            refine x_istore (L' := [(6, vI x1), (5, vA c2), (4, vA c1), (0, vA x), (1, vI w), (2, vI f), (3, vI g)]) dX9_of_65 (Nat.le_of_ble_eq_true rfl) rfl ?_
            refine x_iload 0 dX9_of_67 rfl ?_
            refine x_iconst dX9_of_69 (okI_c rfl) ?_
            refine x_icmp_ne 80 dX9_of_70 (by decide) (fun c_70 => ?_) (fun c_70 => ?_)
            · have hx1 : sP S f g = x1 := e_x1.symm
              have hp := lcmS_f (a := sD S f) (b := sD S g) hok1.2.2.1 hok2.2.2.1 (by rw [← e_x1]; omega)
              rw [← e_x1] at hp
              have hmx : sMx S f g = max (sT S f) (sT S g) + x1 := by rw [sMx, hx1]
              refine x_iload_n 4 dX9_of_80 rfl rfl ?_
              refine x_iconst dX9_of_81 (okI_c rfl) ?_
              refine x_icmp_ne 104 dX9_of_82 (by decide) (fun c_82 => ?_) (fun c_82 => ?_)
              · refine x_aload_n 3 dX9_of_104 rfl rfl ?_
                refine x_aload_n 3 dX9_of_105 rfl rfl ?_
                refine x_get 8 dX9_of_106 fl_X9_50 hx rfl ?_
                refine x_iload_n 4 dX9_of_109 rfl rfl ?_
                refine x_aload 2 dX9_of_110 rfl ?_
                refine x_aload 1 dX9_of_112 rfl ?_
                refine x_iload 0 dX9_of_114 rfl ?_
                refine x_callV [vI w, vA c1, vA c2, vI x1] dX9_of_116 kv_X9_103 rfl rfl hmk (by omega) (Nat.le_of_ble_eq_true rfl) (by omega) (by omega) (k_X3_fromBoth (d := 7) (by omega) ⟨hmk, hmd, hon, hot, o9, oA⟩ hcv1 hok1 hcv2 hok2 (by omega) (by omega) (w := w) (p := x1) (by omega) (by omega) (by omega) (by omega) (by omega) (by omega)) (fun r1 h1 q1 => ?_)
                rw [hF1, hF2, ← hmx] at q1
                obtain ⟨h2, hsc, hor⟩ := q1
                obtain ⟨hC2, hF2⟩ := hC.scr hsc
                rcases hor with ⟨rfl, e2, hno⟩ | ⟨T, D, C, hyes, hnew⟩
                · rw [e2]
                  show EX G mX9_of d 2 265 _ _ _ [vN, vA x] _ _ _
                  refine x_callV [vN] dX9_of_119 kv_X9_82 rfl rfl hC2.2.1 (by omega) (Nat.le_of_ble_eq_true rfl) (by omega) (by omega) (k_X9_kept_no (d := 1) (by omega) hC2) (fun r3 h3 q3 => ?_)
                  obtain ⟨rfl, hCz, hFz⟩ := q3
                  exact x_ireturn dX9_of_122 rfl (by omega) (by omega) (outC (by rw [oOf, cond_f (fun z => z.elim (fun y => by omega) (fun y => y.elim (fun y => y hf1) (fun y => y hf2))), if_neg (show ¬ 60 ≤ sCu S by omega), if_neg (show ¬ sP S f g = -1 by omega), hx1, if_neg (show ¬ (w = 5 ∧ sGi S g x1 < sGi S f x1) from fun z => by first | (exfalso; have := z.1; omega) | exact absurd z.2 (b2i_eq c_94))]; exact mkO_no hno) hCz (Fr.trans hF2 hFz))
                · obtain ⟨c9, rfl, hC3, hF3, hce⟩ := hC2.newc hnew
                  show EX G mX9_of d 2 265 _ _ _ [vA c9, vA x] _ _ _
                  refine x_callV [vA c9] dX9_of_119 kv_X9_82 rfl rfl hC3.2.1 (by omega) (Nat.le_of_ble_eq_true rfl) (by omega) (by omega) (k_X9_kept (d := 1) (by omega) hC3 s1 (by omega) hce) (fun r3 h3 q3 => ?_)
                  obtain ⟨rfl, hCz, hFz⟩ := q3
                  exact x_ireturn dX9_of_122 rfl (by omega) (by omega) (outC (by rw [oOf, cond_f (fun z => z.elim (fun y => by omega) (fun y => y.elim (fun y => y hf1) (fun y => y hf2))), if_neg (show ¬ 60 ≤ sCu S by omega), if_neg (show ¬ sP S f g = -1 by omega), hx1, if_neg (show ¬ (w = 5 ∧ sGi S g x1 < sGi S f x1) from fun z => by first | (exfalso; have := z.1; omega) | exact absurd z.2 (b2i_eq c_94))]; exact mkO_yes hyes) hCz (Fr.trans (hF2.trans hF3) hFz))
              · refine x_aload 2 dX9_of_85 rfl ?_
                refine x_aload 1 dX9_of_87 rfl ?_
                refine x_iload 0 dX9_of_89 rfl ?_
                refine x_callS [vA c1, vA c2, vI x1] dX9_of_91 ks_X9_99 rfl rfl (by omega) (Nat.le_of_ble_eq_true rfl) (by omega) (by omega) (k_X4_outruns (d := 1) (by omega) hcv1 hok1 hcv2 hok2 (p := x1) (by omega) (by omega)) (after_ret ?_)
                refine x_if_eq 104 dX9_of_94 (by decide) (fun c_94 => ?_) (fun c_94 => ?_)
                · refine x_aload_n 3 dX9_of_104 rfl rfl ?_
                  refine x_aload_n 3 dX9_of_105 rfl rfl ?_
                  refine x_get 8 dX9_of_106 fl_X9_50 hx rfl ?_
                  refine x_iload_n 4 dX9_of_109 rfl rfl ?_
                  refine x_aload 2 dX9_of_110 rfl ?_
                  refine x_aload 1 dX9_of_112 rfl ?_
                  refine x_iload 0 dX9_of_114 rfl ?_
                  refine x_callV [vI w, vA c1, vA c2, vI x1] dX9_of_116 kv_X9_103 rfl rfl hmk (by omega) (Nat.le_of_ble_eq_true rfl) (by omega) (by omega) (k_X3_fromBoth (d := 7) (by omega) ⟨hmk, hmd, hon, hot, o9, oA⟩ hcv1 hok1 hcv2 hok2 (by omega) (by omega) (w := w) (p := x1) (by omega) (by omega) (by omega) (by omega) (by omega) (by omega)) (fun r1 h1 q1 => ?_)
                  rw [hF1, hF2, ← hmx] at q1
                  obtain ⟨h2, hsc, hor⟩ := q1
                  obtain ⟨hC2, hF2⟩ := hC.scr hsc
                  rcases hor with ⟨rfl, e2, hno⟩ | ⟨T, D, C, hyes, hnew⟩
                  · rw [e2]
                    show EX G mX9_of d 2 265 _ _ _ [vN, vA x] _ _ _
                    refine x_callV [vN] dX9_of_119 kv_X9_82 rfl rfl hC2.2.1 (by omega) (Nat.le_of_ble_eq_true rfl) (by omega) (by omega) (k_X9_kept_no (d := 1) (by omega) hC2) (fun r3 h3 q3 => ?_)
                    obtain ⟨rfl, hCz, hFz⟩ := q3
                    exact x_ireturn dX9_of_122 rfl (by omega) (by omega) (outC (by rw [oOf, cond_f (fun z => z.elim (fun y => by omega) (fun y => y.elim (fun y => y hf1) (fun y => y hf2))), if_neg (show ¬ 60 ≤ sCu S by omega), if_neg (show ¬ sP S f g = -1 by omega), hx1, if_neg (show ¬ (w = 5 ∧ sGi S g x1 < sGi S f x1) from fun z => by first | (exfalso; have := z.1; omega) | exact absurd z.2 (b2i_eq c_94))]; exact mkO_no hno) hCz (Fr.trans hF2 hFz))
                  · obtain ⟨c9, rfl, hC3, hF3, hce⟩ := hC2.newc hnew
                    show EX G mX9_of d 2 265 _ _ _ [vA c9, vA x] _ _ _
                    refine x_callV [vA c9] dX9_of_119 kv_X9_82 rfl rfl hC3.2.1 (by omega) (Nat.le_of_ble_eq_true rfl) (by omega) (by omega) (k_X9_kept (d := 1) (by omega) hC3 s1 (by omega) hce) (fun r3 h3 q3 => ?_)
                    obtain ⟨rfl, hCz, hFz⟩ := q3
                    exact x_ireturn dX9_of_122 rfl (by omega) (by omega) (outC (by rw [oOf, cond_f (fun z => z.elim (fun y => by omega) (fun y => y.elim (fun y => y hf1) (fun y => y hf2))), if_neg (show ¬ 60 ≤ sCu S by omega), if_neg (show ¬ sP S f g = -1 by omega), hx1, if_neg (show ¬ (w = 5 ∧ sGi S g x1 < sGi S f x1) from fun z => by first | (exfalso; have := z.1; omega) | exact absurd z.2 (b2i_eq c_94))]; exact mkO_yes hyes) hCz (Fr.trans (hF2.trans hF3) hFz))
                · refine x_aload_n 3 dX9_of_97 rfl rfl ?_
                  refine x_bipush dX9_of_98 (okI_c rfl) (by decide +kernel) ?_
                  refine x_callV [vI ((-5))] dX9_of_100 kv_X9_59 rfl rfl hx (by omega) (Nat.le_of_ble_eq_true rfl) (by omega) (by omega) (k_X9_refused (d := 0) (S := S)  (hC)) (fun r1 h1 q1 => ?_)
                  obtain ⟨rfl, hCz, hFz⟩ := q1
                  exact x_ireturn dX9_of_103 rfl (by omega) (by omega) (outC (by rw [oOf, cond_f (fun z => z.elim (fun y => by omega) (fun y => y.elim (fun y => y hf1) (fun y => y hf2))), if_neg (show ¬ 60 ≤ sCu S by omega), if_neg (show ¬ sP S f g = -1 by omega), hx1, if_pos ⟨by omega, b2i_ne c_94⟩]; rfl) hCz (Fr.trans Fr.refl hFz))
            · refine x_aload_n 3 dX9_of_73 rfl rfl ?_
              refine x_bipush dX9_of_74 (okI_c rfl) (by decide +kernel) ?_
              refine x_callV [vI ((-4))] dX9_of_76 kv_X9_59 rfl rfl hx (by omega) (Nat.le_of_ble_eq_true rfl) (by omega) (by omega) (k_X9_refused (d := 0) (S := S)  (hC)) (fun r1 h1 q1 => ?_)
              obtain ⟨rfl, hCz, hFz⟩ := q1
              exact x_ireturn dX9_of_79 rfl (by omega) (by omega) (outC (by rw [oOf, cond_f (fun z => z.elim (fun y => by omega) (fun y => y.elim (fun y => y hf1) (fun y => y hf2))), if_neg (show ¬ 60 ≤ sCu S by omega), if_pos (by have : sP S f g = x1 := e_x1.symm; omega)]; rfl) hCz (Fr.trans Fr.refl hFz))
          · refine x_aload_n 2 dX9_of_51 rfl rfl ?_
            refine x_bipush dX9_of_52 (okI_c rfl) (by decide +kernel) ?_
            refine x_callV [vI ((-3))] dX9_of_54 kv_X9_59 rfl rfl hx (by omega) (Nat.le_of_ble_eq_true rfl) (by omega) (by omega) (k_X9_refused (d := 0) (S := S)  (hC)) (fun r1 h1 q1 => ?_)
            obtain ⟨rfl, hCz, hFz⟩ := q1
            exact x_ireturn dX9_of_57 rfl (by omega) (by omega) (outC (by rw [oOf, cond_f (fun z => z.elim (fun y => by omega) (fun y => y.elim (fun y => y hf1) (fun y => y hf2))), if_pos (by omega)]; rfl) hCz (Fr.trans Fr.refl hFz))
set_option maxRecDepth 100000 in
set_option maxHeartbeats 4000000 in
theorem k_X9_undo {G : aG} {d : Nat} (hd : 8 ≤ d) {x ac ar rr cr ta tm mk md on ot lo hi : Nat} {S : aS} {nc : Nat} {h : aH} (hC : CRel x ac ar rr cr ta tm mk md on ot lo hi S h) (hS : SOk nc S)  : MC G mX9_undo d 0 0 [vA x] h (COut x ac ar rr cr ta tm mk md on ot lo hi h vI (oUndo S)) := by
  obtain ⟨⟨o1, o2, o3, o4, o5, o6, o7, o8, o9, oA, oB, oC, oD⟩, hx, ⟨fc, hac, hcs⟩, ⟨fr, har, hrw⟩, ⟨cm, hrr, hcr, hcm⟩, ⟨gt, hta, htm, htl⟩, hmk, ⟨gm, hmd⟩, ⟨g1, hon⟩, ⟨g2, hot⟩⟩ := id hC
  obtain ⟨⟨s1, s2⟩, s3, ⟨s4, s5⟩, ⟨s6, s7, s8⟩, s9, ⟨s10, s11⟩, s12⟩ := id hS
  refine MC.of (by decide) (Nat.le_of_ble_eq_true rfl) (fun ok okh => ?_)
  show EX G mX9_undo d 0 0 _ 0 [(0, vA x)] [] h 0 0
  refine x_aload_n 0 dX9_undo_0 rfl rfl ?_
  refine x_get 2 dX9_undo_1 fl_X9_19 hx rfl ?_
  refine x_if_eq 27 dX9_undo_4 (by decide) (fun c_4 => ?_) (fun c_4 => ?_)
  · refine x_aload_n 0 dX9_undo_27 rfl rfl ?_
    refine x_bipush dX9_undo_28 (okI_c rfl) (by decide +kernel) ?_
    refine x_callV [vI ((-2))] dX9_undo_30 kv_X9_59 rfl rfl hx (by omega) (Nat.le_of_ble_eq_true rfl) (by omega) (by omega) (k_X9_refused (d := 0) (S := S)  (hC)) (fun r1 h1 q1 => ?_)
    obtain ⟨rfl, hCz, hFz⟩ := q1
    exact x_ireturn dX9_undo_33 rfl (by omega) (by omega) (outC (by rw [oUndo, if_pos (by omega)]; rfl) hCz (Fr.trans Fr.refl hFz))
  · refine x_aload_n 0 dX9_undo_7 rfl rfl ?_
    refine x_get 1 dX9_undo_8 fl_X9_15 hx rfl ?_
    refine x_iconst dX9_undo_11 (okI_c rfl) ?_
    refine x_icmp_lt 27 dX9_undo_12 (by decide) (fun c_12 => (by have := s5 (by omega); exfalso; omega)) (fun c_12 => ?_)
    refine x_aload_n 0 dX9_undo_15 rfl rfl ?_
    refine x_get 1 dX9_undo_16 fl_X9_15 hx rfl ?_
    refine x_aload_n 0 dX9_undo_19 rfl rfl ?_
    refine x_get 0 dX9_undo_20 fl_X9_11 hx rfl ?_
    refine x_alenR dX9_undo_23 hac (by omega) ?_
    refine x_icmp_le 34 dX9_undo_24 (by decide) (fun c_24 => ?_) (fun c_24 => (by exfalso; omega))
    refine x_aload_n 0 dX9_undo_34 rfl rfl ?_
    refine x_dup dX9_undo_35 rfl ?_
    refine x_get 1 dX9_undo_36 fl_X9_15 hx rfl ?_
    refine x_iconst dX9_undo_39 (okI_c rfl) ?_
    refine x_isub dX9_undo_40 (by unfold okI; omega) ?_
    refine x_put 1 dX9_undo_41 pu_X9_15 hx rfl rfl (Nat.le_of_ble_eq_true rfl) ?_
    refine x_aload_n 0 dX9_undo_44 rfl rfl ?_
    refine x_get 0 dX9_undo_45 fl_X9_11 (hset_eq _ _ _) rfl ?_
    refine x_aload_n 0 dX9_undo_48 rfl rfl ?_
    refine x_get 1 dX9_undo_49 fl_X9_15 (hset_eq _ _ _) rfl ?_
    refine x_null dX9_undo_52 ?_
    refine x_aastoreN dX9_undo_53 ((hset_ne _ _ (by omega)).trans hac) (by omega) (by omega) ?_
    refine x_aload_n 0 dX9_undo_54 rfl rfl ?_
    refine x_get 6 dX9_undo_55 fl_X9_37 ((hset_ne _ _ (by omega)).trans (hset_eq _ _ _)) rfl ?_
    refine x_aload_n 0 dX9_undo_58 rfl rfl ?_
    refine x_get 1 dX9_undo_59 fl_X9_15 ((hset_ne _ _ (by omega)).trans (hset_eq _ _ _)) rfl ?_
    refine x_icmp_ne 70 dX9_undo_62 (by decide) (fun c_62 => ?_) (fun c_62 => ?_)
    · refine x_aload_n 0 dX9_undo_70 rfl rfl ?_
      refine x_iconst dX9_undo_71 (okI_c rfl) ?_
      refine x_put 2 dX9_undo_72 pu_X9_19 ((hset_ne _ _ (by omega)).trans (hset_eq _ _ _)) (by decide +kernel) (by decide +kernel) (Nat.le_of_ble_eq_true rfl) ?_
      refine x_aload_n 0 dX9_undo_75 rfl rfl ?_
      refine x_aload_n 0 dX9_undo_76 rfl rfl ?_
      refine x_get 1 dX9_undo_77 fl_X9_15 (hset_eq _ _ _) rfl ?_
      refine x_callV [vI (((sCu S)) - 1)] dX9_undo_80 kv_X9_63 rfl rfl (hset_eq _ _ _) (by omega) (Nat.le_of_ble_eq_true rfl) (by omega) (by omega) (k_X9_granted (d := 0) (S := sCnt (sCu S - 1) 0 S) (h := (hset (hset (hset h x (eO 8 [vA ac, vI (((sCu S)) - 1), vI ((sMu S)), vA ar, vI ((sRn S)), vA rr, vI ((sSv S)), vA ta, vA mk, vI ((sLt S))])) ac (eR 60 (va_up fc (((sCu S)) - 1).toNat none))) x (eO 8 [vA ac, vI (((sCu S)) - 1), vI 0, vA ar, vI ((sRn S)), vA rr, vI ((sSv S)), vA ta, vA mk, vI ((sLt S))]))) (⟨⟨o1, o2, o3, o4, o5, o6, o7, o8, o9, oA, oB, oC, (by rw [hset_ne _ _ (show hi - 1 ≠ x by omega), hset_ne _ _ (show hi - 1 ≠ ac by omega), hset_ne _ _ (show hi - 1 ≠ x by omega)]; exact oD)⟩, (hset_eq _ _ _), ⟨(va_up fc (((sCu S)) - 1).toNat none), ((hset_ne _ _ (by omega)).trans (hset_eq _ _ _)), (fun i q1 q2 => by
                have q3 : i < sCu S - 1 := q2
                show CvE _ hi (va_up fc (sCu S - 1).toNat none i.toNat) (sT S i) (sD S i) (sC S i) (sA S i)
                rw [va_up_ne _ _ (by omega)]
                exact (((hcs i q1 (by omega)).keep (by omega)).keep (by omega)).keep (by omega))⟩, ⟨fr, ((hset_ne _ _ (by omega)).trans ((hset_ne _ _ (by omega)).trans ((hset_ne _ _ (by omega)).trans har))), hrw⟩, ⟨cm, ((hset_ne _ _ (by omega)).trans ((hset_ne _ _ (by omega)).trans ((hset_ne _ _ (by omega)).trans hrr))), ((hset_ne _ _ (by omega)).trans ((hset_ne _ _ (by omega)).trans ((hset_ne _ _ (by omega)).trans hcr))), hcm⟩, ⟨gt, ((hset_ne _ _ (by omega)).trans ((hset_ne _ _ (by omega)).trans ((hset_ne _ _ (by omega)).trans hta))), ((hset_ne _ _ (by omega)).trans ((hset_ne _ _ (by omega)).trans ((hset_ne _ _ (by omega)).trans htm))), htl⟩, ((hset_ne _ _ (by omega)).trans ((hset_ne _ _ (by omega)).trans ((hset_ne _ _ (by omega)).trans hmk))), ⟨_, ((hset_ne _ _ (by omega)).trans ((hset_ne _ _ (by omega)).trans ((hset_ne _ _ (by omega)).trans hmd)))⟩, ⟨_, ((hset_ne _ _ (by omega)).trans ((hset_ne _ _ (by omega)).trans ((hset_ne _ _ (by omega)).trans hon)))⟩, ⟨_, ((hset_ne _ _ (by omega)).trans ((hset_ne _ _ (by omega)).trans ((hset_ne _ _ (by omega)).trans hot)))⟩⟩)) (fun r1 h1 q1 => ?_)
      obtain ⟨rfl, hCz, hFz⟩ := q1
      exact x_ireturn dX9_undo_83 rfl (by omega) (by omega) (outC (by rw [oUndo, if_neg (by omega), if_neg c_62]; rfl) hCz (Fr.trans (Fr.set (Fr.set (Fr.set Fr.refl (by omega)) (by omega)) (by omega)) hFz))
    · refine x_aload_n 0 dX9_undo_65 rfl rfl ?_
      refine x_iconst dX9_undo_66 (okI_c rfl) ?_
      refine x_put 6 dX9_undo_67 pu_X9_37 ((hset_ne _ _ (by omega)).trans (hset_eq _ _ _)) rfl rfl (Nat.le_of_ble_eq_true rfl) ?_
      refine x_aload_n 0 dX9_undo_70 rfl rfl ?_
      refine x_iconst dX9_undo_71 (okI_c rfl) ?_
      refine x_put 2 dX9_undo_72 pu_X9_19 (hset_eq _ _ _) (by decide +kernel) (by decide +kernel) (Nat.le_of_ble_eq_true rfl) ?_
      refine x_aload_n 0 dX9_undo_75 rfl rfl ?_
      refine x_aload_n 0 dX9_undo_76 rfl rfl ?_
      refine x_get 1 dX9_undo_77 fl_X9_15 (hset_eq _ _ _) rfl ?_
      refine x_callV [vI (((sCu S)) - 1)] dX9_undo_80 kv_X9_63 rfl rfl (hset_eq _ _ _) (by omega) (Nat.le_of_ble_eq_true rfl) (by omega) (by omega) (k_X9_granted (d := 0) (S := sSrv (-1) (sCnt (sCu S - 1) 0 S)) (h := (hset (hset (hset (hset h x (eO 8 [vA ac, vI (((sCu S)) - 1), vI ((sMu S)), vA ar, vI ((sRn S)), vA rr, vI ((sSv S)), vA ta, vA mk, vI ((sLt S))])) ac (eR 60 (va_up fc (((sCu S)) - 1).toNat none))) x (eO 8 [vA ac, vI (((sCu S)) - 1), vI ((sMu S)), vA ar, vI ((sRn S)), vA rr, vI ((-1)), vA ta, vA mk, vI ((sLt S))])) x (eO 8 [vA ac, vI (((sCu S)) - 1), vI 0, vA ar, vI ((sRn S)), vA rr, vI ((-1)), vA ta, vA mk, vI ((sLt S))]))) (⟨⟨o1, o2, o3, o4, o5, o6, o7, o8, o9, oA, oB, oC, (by rw [hset_ne _ _ (show hi - 1 ≠ x by omega), hset_ne _ _ (show hi - 1 ≠ x by omega), hset_ne _ _ (show hi - 1 ≠ ac by omega), hset_ne _ _ (show hi - 1 ≠ x by omega)]; exact oD)⟩, (hset_eq _ _ _), ⟨(va_up fc (((sCu S)) - 1).toNat none), ((hset_ne _ _ (by omega)).trans ((hset_ne _ _ (by omega)).trans (hset_eq _ _ _))), (fun i q1 q2 => by
                have q3 : i < sCu S - 1 := q2
                show CvE _ hi (va_up fc (sCu S - 1).toNat none i.toNat) (sT S i) (sD S i) (sC S i) (sA S i)
                rw [va_up_ne _ _ (by omega)]
                exact ((((hcs i q1 (by omega)).keep (by omega)).keep (by omega)).keep (by omega)).keep (by omega))⟩, ⟨fr, ((hset_ne _ _ (by omega)).trans ((hset_ne _ _ (by omega)).trans ((hset_ne _ _ (by omega)).trans ((hset_ne _ _ (by omega)).trans har)))), hrw⟩, ⟨cm, ((hset_ne _ _ (by omega)).trans ((hset_ne _ _ (by omega)).trans ((hset_ne _ _ (by omega)).trans ((hset_ne _ _ (by omega)).trans hrr)))), ((hset_ne _ _ (by omega)).trans ((hset_ne _ _ (by omega)).trans ((hset_ne _ _ (by omega)).trans ((hset_ne _ _ (by omega)).trans hcr)))), hcm⟩, ⟨gt, ((hset_ne _ _ (by omega)).trans ((hset_ne _ _ (by omega)).trans ((hset_ne _ _ (by omega)).trans ((hset_ne _ _ (by omega)).trans hta)))), ((hset_ne _ _ (by omega)).trans ((hset_ne _ _ (by omega)).trans ((hset_ne _ _ (by omega)).trans ((hset_ne _ _ (by omega)).trans htm)))), htl⟩, ((hset_ne _ _ (by omega)).trans ((hset_ne _ _ (by omega)).trans ((hset_ne _ _ (by omega)).trans ((hset_ne _ _ (by omega)).trans hmk)))), ⟨_, ((hset_ne _ _ (by omega)).trans ((hset_ne _ _ (by omega)).trans ((hset_ne _ _ (by omega)).trans ((hset_ne _ _ (by omega)).trans hmd))))⟩, ⟨_, ((hset_ne _ _ (by omega)).trans ((hset_ne _ _ (by omega)).trans ((hset_ne _ _ (by omega)).trans ((hset_ne _ _ (by omega)).trans hon))))⟩, ⟨_, ((hset_ne _ _ (by omega)).trans ((hset_ne _ _ (by omega)).trans ((hset_ne _ _ (by omega)).trans ((hset_ne _ _ (by omega)).trans hot))))⟩⟩)) (fun r1 h1 q1 => ?_)
      obtain ⟨rfl, hCz, hFz⟩ := q1
      exact x_ireturn dX9_undo_83 rfl (by omega) (by omega) (outC (by rw [oUndo, if_neg (by omega), if_pos c_62]; rfl) hCz (Fr.trans (Fr.set (Fr.set (Fr.set (Fr.set Fr.refl (by omega)) (by omega)) (by omega)) (by omega)) hFz))
set_option maxRecDepth 100000 in
set_option maxHeartbeats 4000000 in
theorem k_X9_clear {G : aG} {d : Nat} (hd : 8 ≤ d) {x ac ar rr cr ta tm mk md on ot lo hi : Nat} {S : aS} {nc : Nat} {h : aH} (hC : CRel x ac ar rr cr ta tm mk md on ot lo hi S h) (hS : SOk nc S)  : MC G mX9_clear d 0 0 [vA x] h (COut x ac ar rr cr ta tm mk md on ot lo hi h vI (oClear S)) := by
  obtain ⟨⟨o1, o2, o3, o4, o5, o6, o7, o8, o9, oA, oB, oC, oD⟩, hx, ⟨fc, hac, hcs⟩, ⟨fr, har, hrw⟩, ⟨cm, hrr, hcr, hcm⟩, ⟨gt, hta, htm, htl⟩, hmk, ⟨gm, hmd⟩, ⟨g1, hon⟩, ⟨g2, hot⟩⟩ := id hC
  obtain ⟨⟨s1, s2⟩, s3, ⟨s4, s5⟩, ⟨s6, s7, s8⟩, s9, ⟨s10, s11⟩, s12⟩ := id hS
  refine MC.of (by decide) (Nat.le_of_ble_eq_true rfl) (fun ok okh => ?_)
  show EX G mX9_clear d 0 0 _ 0 [(0, vA x)] [] h 0 0
  refine x_iconst dX9_clear_0 (okI_c rfl) ?_
  refine x_istore_n (L' := [(1, vI 0), (0, vA x)]) dX9_clear_1 rfl (Nat.le_of_ble_eq_true rfl) rfl ?_
  have loop_2 : ∀ (k_2 : Nat) (i : Int) (fi : Nat → Option Nat), (60 - i).toNat < k_2 → 0 ≤ i → i ≤ 60 → EX G mX9_clear d 0 0 (COut x ac ar rr cr ta tm mk md on ot lo hi h vI (oClear S)) 2 [(0, vA x), (1, vI i)] [] (hset h ac (eR 60 fi)) 0 0 := by
    intro k_2
    induction k_2 with
    | zero => intro i fi hm; exact absurd hm (Nat.not_lt_zero _)
    | succ k_2 ih_2 =>
      intro i fi hm_2 hi0 hi6
      refine x_iload_n 1 dX9_clear_2 rfl rfl ?_
      refine x_aload_n 0 dX9_clear_3 rfl rfl ?_
      refine x_get 0 dX9_clear_4 fl_X9_11 ((hset_ne _ _ (by omega)).trans hx) rfl ?_
      refine x_alenR dX9_clear_7 (hset_eq _ _ _) (by omega) ?_
      refine x_icmp_ge 24 dX9_clear_8 (by decide) (fun c_8 => ?_) (fun c_8 => ?_)
      · refine x_aload_n 0 dX9_clear_24 rfl rfl ?_
        refine x_iconst dX9_clear_25 (okI_c rfl) ?_
        refine x_put 1 dX9_clear_26 pu_X9_15 ((hset_ne _ _ (by omega)).trans hx) rfl rfl (Nat.le_of_ble_eq_true rfl) ?_
        refine x_aload_n 0 dX9_clear_29 rfl rfl ?_
        refine x_iconst dX9_clear_30 (okI_c rfl) ?_
        refine x_put 2 dX9_clear_31 pu_X9_19 (hset_eq _ _ _) (by decide +kernel) (by decide +kernel) (Nat.le_of_ble_eq_true rfl) ?_
        refine x_aload_n 0 dX9_clear_34 rfl rfl ?_
        refine x_iconst dX9_clear_35 (okI_c rfl) ?_
        refine x_put 4 dX9_clear_36 pu_X9_27 (hset_eq _ _ _) rfl rfl (Nat.le_of_ble_eq_true rfl) ?_
        refine x_aload_n 0 dX9_clear_39 rfl rfl ?_
        refine x_get 5 dX9_clear_40 fl_X9_33 (hset_eq _ _ _) rfl ?_
        refine x_iconst dX9_clear_43 (okI_c rfl) ?_
        refine x_putN 1 dX9_clear_44 pu_X9_168 ((hset_ne _ _ (by omega)).trans ((hset_ne _ _ (by omega)).trans ((hset_ne _ _ (by omega)).trans ((hset_ne _ _ (by omega)).trans hrr)))) rfl rfl (Nat.le_of_ble_eq_true rfl) ?_
        refine x_aload_n 0 dX9_clear_47 rfl rfl ?_
        refine x_iconst dX9_clear_48 (okI_c rfl) ?_
        refine x_put 6 dX9_clear_49 pu_X9_37 ((hset_ne _ _ (by omega)).trans (hset_eq _ _ _)) rfl rfl (Nat.le_of_ble_eq_true rfl) ?_
        refine x_aload_n 0 dX9_clear_52 rfl rfl ?_
        refine x_iconst dX9_clear_53 (okI_c rfl) ?_
        refine x_callV [vI 1] dX9_clear_54 kv_X9_63 rfl rfl (hset_eq _ _ _) (by omega) (Nat.le_of_ble_eq_true rfl) (by omega) (by omega) (k_X9_granted (d := 0) (S := sSrv (-1) (sRun 0 (sSm S) (sRow 0 (sRw S) (sCnt 0 0 S)))) (h := (hset (hset (hset (hset (hset (hset h ac (eR 60 fi)) x (eO 8 [vA ac, vI 0, vI ((sMu S)), vA ar, vI ((sRn S)), vA rr, vI ((sSv S)), vA ta, vA mk, vI ((sLt S))])) x (eO 8 [vA ac, vI 0, vI 0, vA ar, vI ((sRn S)), vA rr, vI ((sSv S)), vA ta, vA mk, vI ((sLt S))])) x (eO 8 [vA ac, vI 0, vI 0, vA ar, vI 0, vA rr, vI ((sSv S)), vA ta, vA mk, vI ((sLt S))])) rr (eO 5 [vA cr, vI 0])) x (eO 8 [vA ac, vI 0, vI 0, vA ar, vI 0, vA rr, vI ((-1)), vA ta, vA mk, vI ((sLt S))]))) (⟨⟨o1, o2, o3, o4, o5, o6, o7, o8, o9, oA, oB, oC, (by rw [hset_ne _ _ (show hi - 1 ≠ x by omega), hset_ne _ _ (show hi - 1 ≠ rr by omega), hset_ne _ _ (show hi - 1 ≠ x by omega), hset_ne _ _ (show hi - 1 ≠ x by omega), hset_ne _ _ (show hi - 1 ≠ x by omega), hset_ne _ _ (show hi - 1 ≠ ac by omega)]; exact oD)⟩, (hset_eq _ _ _), ⟨fi, ((hset_ne _ _ (by omega)).trans ((hset_ne _ _ (by omega)).trans ((hset_ne _ _ (by omega)).trans ((hset_ne _ _ (by omega)).trans ((hset_ne _ _ (by omega)).trans (hset_eq _ _ _)))))), (fun i q1 q2 => by have q3 : i < 0 := q2; omega)⟩, ⟨fr, ((hset_ne _ _ (by omega)).trans ((hset_ne _ _ (by omega)).trans ((hset_ne _ _ (by omega)).trans ((hset_ne _ _ (by omega)).trans ((hset_ne _ _ (by omega)).trans ((hset_ne _ _ (by omega)).trans har)))))), (fun t q1 q2 => by have q3 : t < 0 := q2; omega)⟩, ⟨cm, ((hset_ne _ _ (by omega)).trans (hset_eq _ _ _)), ((hset_ne _ _ (by omega)).trans ((hset_ne _ _ (by omega)).trans ((hset_ne _ _ (by omega)).trans ((hset_ne _ _ (by omega)).trans ((hset_ne _ _ (by omega)).trans ((hset_ne _ _ (by omega)).trans hcr)))))), (fun k q1 q2 => hcm k q1 (by have q3 : k ≤ 0 := q2; have := s9.1; omega))⟩, ⟨gt, ((hset_ne _ _ (by omega)).trans ((hset_ne _ _ (by omega)).trans ((hset_ne _ _ (by omega)).trans ((hset_ne _ _ (by omega)).trans ((hset_ne _ _ (by omega)).trans ((hset_ne _ _ (by omega)).trans hta)))))), ((hset_ne _ _ (by omega)).trans ((hset_ne _ _ (by omega)).trans ((hset_ne _ _ (by omega)).trans ((hset_ne _ _ (by omega)).trans ((hset_ne _ _ (by omega)).trans ((hset_ne _ _ (by omega)).trans htm)))))), htl⟩, ((hset_ne _ _ (by omega)).trans ((hset_ne _ _ (by omega)).trans ((hset_ne _ _ (by omega)).trans ((hset_ne _ _ (by omega)).trans ((hset_ne _ _ (by omega)).trans ((hset_ne _ _ (by omega)).trans hmk)))))), ⟨_, ((hset_ne _ _ (by omega)).trans ((hset_ne _ _ (by omega)).trans ((hset_ne _ _ (by omega)).trans ((hset_ne _ _ (by omega)).trans ((hset_ne _ _ (by omega)).trans ((hset_ne _ _ (by omega)).trans hmd))))))⟩, ⟨_, ((hset_ne _ _ (by omega)).trans ((hset_ne _ _ (by omega)).trans ((hset_ne _ _ (by omega)).trans ((hset_ne _ _ (by omega)).trans ((hset_ne _ _ (by omega)).trans ((hset_ne _ _ (by omega)).trans hon))))))⟩, ⟨_, ((hset_ne _ _ (by omega)).trans ((hset_ne _ _ (by omega)).trans ((hset_ne _ _ (by omega)).trans ((hset_ne _ _ (by omega)).trans ((hset_ne _ _ (by omega)).trans ((hset_ne _ _ (by omega)).trans hot))))))⟩⟩)) (fun r1 h1 q1 => ?_)
        obtain ⟨rfl, hCz, hFz⟩ := q1
        exact x_ireturn dX9_clear_57 rfl (by omega) (by omega) (outC (rfl) hCz (Fr.trans (Fr.set (Fr.set (Fr.set (Fr.set (Fr.set (Fr.set Fr.refl (by omega)) (by omega)) (by omega)) (by omega)) (by omega)) (by omega)) hFz))
      · refine x_aload_n 0 dX9_clear_11 rfl rfl ?_
        refine x_get 0 dX9_clear_12 fl_X9_11 ((hset_ne _ _ (by omega)).trans hx) rfl ?_
        refine x_iload_n 1 dX9_clear_15 rfl rfl ?_
        refine x_null dX9_clear_16 ?_
        refine x_aastoreN dX9_clear_17 (hset_eq _ _ _) (by omega) (by omega) ?_
        refine x_iinc 1 (L' := [(1, vI (i + 1)), (0, vA x)]) dX9_clear_18 rfl (by unfold okI; omega) (Nat.le_of_ble_eq_true rfl) rfl ?_
        refine x_goto 2 dX9_clear_21 (by decide) ?_
        exact EX.pick [1, 0] rfl (x_ash (hset_hset _ _ _ _) (ih_2 (i + 1) (va_up fi i.toNat none) (by omega) (by omega) (by omega)))
  exact EX.pick [1, 0] rfl (x_ash (hset_self hac).symm (loop_2 ((60 - (0 : Int)).toNat + 1) 0 fc (Nat.lt_succ_self _) (by omega) (by omega)))
