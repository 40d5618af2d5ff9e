/-! ===== FlowCurves: its private methods, and the calls without curves ===== -/
def COut (x ac ar rr cr ta tm mk md on ot lo hi : Nat) (h : aH) (v : Int → aV) (res : Int × aS) : Option aV → aH → Prop := fun r h' => r = some (v res.1) ∧ CRel x ac ar rr cr ta tm mk md on ot lo hi res.2 h' ∧ Fr lo hi h h'
theorem outC {x ac ar rr cr ta tm mk md on ot lo hi : Nat} {h h' : aH} {v : Int → aV} {res : Int × aS} {k : Int} {S2 : aS} (e : res = (k, S2)) (hC : CRel x ac ar rr cr ta tm mk md on ot lo hi S2 h') (hF : Fr lo hi h h') : COut x ac ar rr cr ta tm mk md on ot lo hi h v res (some (v k)) h' := by
  subst e; exact ⟨rfl, hC, hF⟩
set_option maxRecDepth 100000 in
set_option maxHeartbeats 4000000 in
theorem k_X9_refused {G : aG} {d : Nat} {x ac ar rr cr ta tm mk md on ot lo hi : Nat} {S : aS} {h : aH} (hC : CRel x ac ar rr cr ta tm mk md on ot lo hi S h) {k : Int} : MC G mX9_refused d 0 0 [vA x, vI k] h (fun r' h' => r' = some (vI k) ∧ CRel x ac ar rr cr ta tm mk md on ot lo hi (sLa k S) h' ∧ Fr lo hi h h') := by
  obtain ⟨⟨o1, o2, o3, o4, o5, o6, o7, o8, o9, oA, oB, oC, oD⟩, hx, ⟨fc, hac, hcs⟩, ⟨fr, har, hrw⟩, ⟨cm, hrr, hcr, hcm⟩, ⟨gt, hta, htm, htl⟩, hmk, ⟨gm, hmd⟩, ⟨g1, hon⟩, ⟨g2, hot⟩⟩ := id hC
  refine MC.of (by decide) (Nat.le_of_ble_eq_true rfl) (fun ok okh => ?_)
  show EX G mX9_refused d 0 0 _ 0 [(0, vA x), (1, vI k)] [] h 0 0
  refine x_aload_n 0 dX9_refused_0 rfl rfl ?_
  refine x_iload_n 1 dX9_refused_1 rfl rfl ?_
  refine x_put 9 dX9_refused_2 pu_X9_54 hx rfl rfl (Nat.le_of_ble_eq_true rfl) ?_
  refine x_iload_n 1 dX9_refused_5 rfl rfl ?_
  exact x_ireturn dX9_refused_6 rfl (by decide) (by decide) ⟨rfl, ⟨⟨o1, o2, o3, o4, o5, o6, o7, o8, o9, oA, oB, oC, (by rw [hset_ne _ _ (show hi - 1 ≠ x by omega)]; exact oD)⟩, (hset_eq _ _ _), ⟨fc, ((hset_ne _ _ (by omega)).trans hac), (fun i q1 q2 => (hcs i q1 q2).keep (by omega))⟩, ⟨fr, ((hset_ne _ _ (by omega)).trans har), hrw⟩, ⟨cm, ((hset_ne _ _ (by omega)).trans hrr), ((hset_ne _ _ (by omega)).trans hcr), hcm⟩, ⟨gt, ((hset_ne _ _ (by omega)).trans hta), ((hset_ne _ _ (by omega)).trans htm), htl⟩, ((hset_ne _ _ (by omega)).trans hmk), ⟨_, ((hset_ne _ _ (by omega)).trans hmd)⟩, ⟨_, ((hset_ne _ _ (by omega)).trans hon)⟩, ⟨_, ((hset_ne _ _ (by omega)).trans hot)⟩⟩, (Fr.set Fr.refl (by omega))⟩
set_option maxRecDepth 100000 in
set_option maxHeartbeats 4000000 in
theorem k_X9_granted {G : aG} {d : Nat} {x ac ar rr cr ta tm mk md on ot lo hi : Nat} {S : aS} {h : aH} (hC : CRel x ac ar rr cr ta tm mk md on ot lo hi S h) {k : Int} : MC G mX9_granted d 0 0 [vA x, vI k] h (fun r' h' => r' = some (vI k) ∧ CRel x ac ar rr cr ta tm mk md on ot lo hi (sLa 0 S) h' ∧ Fr lo hi h h') := by
  obtain ⟨⟨o1, o2, o3, o4, o5, o6, o7, o8, o9, oA, oB, oC, oD⟩, hx, ⟨fc, hac, hcs⟩, ⟨fr, har, hrw⟩, ⟨cm, hrr, hcr, hcm⟩, ⟨gt, hta, htm, htl⟩, hmk, ⟨gm, hmd⟩, ⟨g1, hon⟩, ⟨g2, hot⟩⟩ := id hC
  refine MC.of (by decide) (Nat.le_of_ble_eq_true rfl) (fun ok okh => ?_)
  show EX G mX9_granted d 0 0 _ 0 [(0, vA x), (1, vI k)] [] h 0 0
  refine x_aload_n 0 dX9_granted_0 rfl rfl ?_
  refine x_iconst dX9_granted_1 (okI_c rfl) ?_
  refine x_put 9 dX9_granted_2 pu_X9_54 hx rfl rfl (Nat.le_of_ble_eq_true rfl) ?_
  refine x_iload_n 1 dX9_granted_5 rfl rfl ?_
  exact x_ireturn dX9_granted_6 rfl (by decide) (by decide) ⟨rfl, ⟨⟨o1, o2, o3, o4, o5, o6, o7, o8, o9, oA, oB, oC, (by rw [hset_ne _ _ (show hi - 1 ≠ x by omega)]; exact oD)⟩, (hset_eq _ _ _), ⟨fc, ((hset_ne _ _ (by omega)).trans hac), (fun i q1 q2 => (hcs i q1 q2).keep (by omega))⟩, ⟨fr, ((hset_ne _ _ (by omega)).trans har), hrw⟩, ⟨cm, ((hset_ne _ _ (by omega)).trans hrr), ((hset_ne _ _ (by omega)).trans hcr), hcm⟩, ⟨gt, ((hset_ne _ _ (by omega)).trans hta), ((hset_ne _ _ (by omega)).trans htm), htl⟩, ((hset_ne _ _ (by omega)).trans hmk), ⟨_, ((hset_ne _ _ (by omega)).trans hmd)⟩, ⟨_, ((hset_ne _ _ (by omega)).trans hon)⟩, ⟨_, ((hset_ne _ _ (by omega)).trans hot)⟩⟩, (Fr.set Fr.refl (by omega))⟩
set_option maxRecDepth 100000 in
set_option maxHeartbeats 4000000 in
theorem k_X9_refusedAmount {G : aG} {d : Nat} {x ac ar rr cr ta tm mk md on ot lo hi : Nat} {S : aS} {h : aH} (hC : CRel x ac ar rr cr ta tm mk md on ot lo hi S h) {k : Int} : MC G mX9_refusedAmount d 0 0 [vA x, vI k] h (fun r' h' => r' = some (vJ (-1)) ∧ CRel x ac ar rr cr ta tm mk md on ot lo hi (sLa k S) h' ∧ Fr lo hi h h') := by
  obtain ⟨⟨o1, o2, o3, o4, o5, o6, o7, o8, o9, oA, oB, oC, oD⟩, hx, ⟨fc, hac, hcs⟩, ⟨fr, har, hrw⟩, ⟨cm, hrr, hcr, hcm⟩, ⟨gt, hta, htm, htl⟩, hmk, ⟨gm, hmd⟩, ⟨g1, hon⟩, ⟨g2, hot⟩⟩ := id hC
  refine MC.of (by decide) (Nat.le_of_ble_eq_true rfl) (fun ok okh => ?_)
  show EX G mX9_refusedAmount d 0 0 _ 0 [(0, vA x), (1, vI k)] [] h 0 0
  refine x_aload_n 0 dX9_refusedAmount_0 rfl rfl ?_
  refine x_iload_n 1 dX9_refusedAmount_1 rfl rfl ?_
  refine x_put 9 dX9_refusedAmount_2 pu_X9_54 hx rfl rfl (Nat.le_of_ble_eq_true rfl) ?_
  refine x_ldc2 (n := (-1)) dX9_refusedAmount_5 (okJ_c rfl) kc_X9_207 ?_
  exact x_lreturn dX9_refusedAmount_8 rfl (by decide) (by decide) ⟨rfl, ⟨⟨o1, o2, o3, o4, o5, o6, o7, o8, o9, oA, oB, oC, (by rw [hset_ne _ _ (show hi - 1 ≠ x by omega)]; exact oD)⟩, (hset_eq _ _ _), ⟨fc, ((hset_ne _ _ (by omega)).trans hac), (fun i q1 q2 => (hcs i q1 q2).keep (by omega))⟩, ⟨fr, ((hset_ne _ _ (by omega)).trans har), hrw⟩, ⟨cm, ((hset_ne _ _ (by omega)).trans hrr), ((hset_ne _ _ (by omega)).trans hcr), hcm⟩, ⟨gt, ((hset_ne _ _ (by omega)).trans hta), ((hset_ne _ _ (by omega)).trans htm), htl⟩, ((hset_ne _ _ (by omega)).trans hmk), ⟨_, ((hset_ne _ _ (by omega)).trans hmd)⟩, ⟨_, ((hset_ne _ _ (by omega)).trans hon)⟩, ⟨_, ((hset_ne _ _ (by omega)).trans hot)⟩⟩, (Fr.set Fr.refl (by omega))⟩
set_option maxRecDepth 100000 in
set_option maxHeartbeats 4000000 in
theorem k_X9_grantedAmount {G : aG} {d : Nat} {x ac ar rr cr ta tm mk md on ot lo hi : Nat} {S : aS} {h : aH} (hC : CRel x ac ar rr cr ta tm mk md on ot lo hi S h) {k : Int} : MC G mX9_grantedAmount d 0 0 [vA x, vJ k] h (fun r' h' => r' = some (vJ k) ∧ CRel x ac ar rr cr ta tm mk md on ot lo hi (sLa 0 S) h' ∧ Fr lo hi h h') := by
  obtain ⟨⟨o1, o2, o3, o4, o5, o6, o7, o8, o9, oA, oB, oC, oD⟩, hx, ⟨fc, hac, hcs⟩, ⟨fr, har, hrw⟩, ⟨cm, hrr, hcr, hcm⟩, ⟨gt, hta, htm, htl⟩, hmk, ⟨gm, hmd⟩, ⟨g1, hon⟩, ⟨g2, hot⟩⟩ := id hC
  refine MC.of (by decide) (Nat.le_of_ble_eq_true rfl) (fun ok okh => ?_)
  show EX G mX9_grantedAmount d 0 0 _ 0 [(0, vA x), (1, vJ k)] [] h 0 0
  refine x_aload_n 0 dX9_grantedAmount_0 rfl rfl ?_
  refine x_iconst dX9_grantedAmount_1 (okI_c rfl) ?_
  refine x_put 9 dX9_grantedAmount_2 pu_X9_54 hx rfl rfl (Nat.le_of_ble_eq_true rfl) ?_
  refine x_lload_n 1 dX9_grantedAmount_5 rfl rfl ?_
  exact x_lreturn dX9_grantedAmount_6 rfl (by decide) (by decide) ⟨rfl, ⟨⟨o1, o2, o3, o4, o5, o6, o7, o8, o9, oA, oB, oC, (by rw [hset_ne _ _ (show hi - 1 ≠ x by omega)]; exact oD)⟩, (hset_eq _ _ _), ⟨fc, ((hset_ne _ _ (by omega)).trans hac), (fun i q1 q2 => (hcs i q1 q2).keep (by omega))⟩, ⟨fr, ((hset_ne _ _ (by omega)).trans har), hrw⟩, ⟨cm, ((hset_ne _ _ (by omega)).trans hrr), ((hset_ne _ _ (by omega)).trans hcr), hcm⟩, ⟨gt, ((hset_ne _ _ (by omega)).trans hta), ((hset_ne _ _ (by omega)).trans htm), htl⟩, ((hset_ne _ _ (by omega)).trans hmk), ⟨_, ((hset_ne _ _ (by omega)).trans hmd)⟩, ⟨_, ((hset_ne _ _ (by omega)).trans hon)⟩, ⟨_, ((hset_ne _ _ (by omega)).trans hot)⟩⟩, (Fr.set Fr.refl (by omega))⟩
set_option maxRecDepth 100000 in
set_option maxHeartbeats 4000000 in
theorem k_X9_put {G : aG} {d : Nat} (hd : 1 ≤ d) {x ac ar rr cr ta tm mk md on ot lo hi : Nat} {S : aS} {nc : Nat} {h : aH} (hC : CRel x ac ar rr cr ta tm mk md on ot lo hi S h) (hS : SOk nc S) {v : Int} : MC G mX9_put d 0 0 [vA x, vJ v] h (COut x ac ar rr cr ta tm mk md on ot lo hi h vI (oPut v S)) := by
  obtain ⟨⟨o1, o2, o3, o4, o5, o6, o7, o8, o9, oA, oB, oC, oD⟩, hx, ⟨fc, hac, hcs⟩, ⟨fr, har, hrw⟩, ⟨cm, hrr, hcr, hcm⟩, ⟨gt, hta, htm, htl⟩, hmk, ⟨gm, hmd⟩, ⟨g1, hon⟩, ⟨g2, hot⟩⟩ := id hC
  obtain ⟨⟨s1, s2⟩, s3, ⟨s4, s5⟩, ⟨s6, s7, s8⟩, s9, ⟨s10, s11⟩, s12⟩ := id hS
  refine MC.of (by decide) (Nat.le_of_ble_eq_true rfl) (fun ok okh => ?_)
  show EX G mX9_put d 0 0 _ 0 [(0, vA x), (1, vJ v)] [] h 0 0
  refine x_lload_n 1 dX9_put_0 rfl rfl ?_
  refine x_lconst (x := 0) dX9_put_1 (okJ_c rfl) rfl ?_
  refine x_lc_lt 14 dX9_put_2 dX9_put_3 (by decide) (fun c_2 => ?_) (fun c_2 => ?_)
  · refine x_aload_n 0 dX9_put_14 rfl rfl ?_
    refine x_iconst dX9_put_15 (okI_c rfl) ?_
    refine x_callV [vI ((-1))] dX9_put_16 kv_X9_59 rfl rfl hx (by omega) (Nat.le_of_ble_eq_true rfl) (by omega) (by omega) (k_X9_refused (d := 0) (S := S)  (hC)) (fun r1 h1 q1 => ?_)
    obtain ⟨rfl, hCz, hFz⟩ := q1
    exact x_ireturn dX9_put_19 rfl (by omega) (by omega) (outC (by rw [oPut, if_pos (by omega)]; rfl) hCz (Fr.trans Fr.refl hFz))
  · refine x_lload_n 1 dX9_put_6 rfl rfl ?_
    refine x_ldc2 (n := 1000000000000) dX9_put_7 (okJ_c rfl) kc_X9_57 ?_
    refine x_lc_le 20 dX9_put_10 dX9_put_11 (by decide) (fun c_10 => ?_) (fun c_10 => ?_)
    · refine x_aload_n 0 dX9_put_20 rfl rfl ?_
      refine x_get 4 dX9_put_21 fl_X9_27 hx rfl ?_
      refine x_aload_n 0 dX9_put_24 rfl rfl ?_
      refine x_get 3 dX9_put_25 fl_X9_23 hx rfl ?_
      refine x_alenJ dX9_put_28 har (by omega) ?_
      refine x_icmp_lt 39 dX9_put_29 (by decide) (fun c_29 => ?_) (fun c_29 => ?_)
      · refine x_aload_n 0 dX9_put_39 rfl rfl ?_
        refine x_get 3 dX9_put_40 fl_X9_23 hx rfl ?_
        refine x_aload_n 0 dX9_put_43 rfl rfl ?_
        refine x_get 4 dX9_put_44 fl_X9_27 hx rfl ?_
        refine x_lload_n 1 dX9_put_47 rfl rfl ?_
        refine x_lastore dX9_put_48 har (by omega) (by omega) ?_
        refine x_aload_n 0 dX9_put_49 rfl rfl ?_
        refine x_dup dX9_put_50 rfl ?_
        refine x_get 4 dX9_put_51 fl_X9_27 ((hset_ne _ _ (by omega)).trans hx) rfl ?_
        refine x_iconst dX9_put_54 (okI_c rfl) ?_
        refine x_iadd dX9_put_55 (by unfold okI; omega) ?_
        refine x_put 4 dX9_put_56 pu_X9_27 ((hset_ne _ _ (by omega)).trans hx) rfl rfl (Nat.le_of_ble_eq_true rfl) ?_
        refine x_aload_n 0 dX9_put_59 rfl rfl ?_
        refine x_aload_n 0 dX9_put_60 rfl rfl ?_
        refine x_get 4 dX9_put_61 fl_X9_27 (hset_eq _ _ _) rfl ?_
        refine x_callV [vI (((sRn S)) + 1)] dX9_put_64 kv_X9_63 rfl rfl (hset_eq _ _ _) (by omega) (Nat.le_of_ble_eq_true rfl) (by omega) (by omega) (k_X9_granted (d := 0) (S := sRow (sRn S + 1) (va_up (sRw S) (sRn S).toNat v) S) (h := (hset (hset h ar (eJ 300 (va_up fr ((sRn S)).toNat v))) x (eO 8 [vA ac, vI ((sCu S)), vI ((sMu S)), vA ar, vI (((sRn S)) + 1), vA rr, vI ((sSv S)), vA ta, vA mk, vI ((sLt S))]))) (⟨⟨o1, o2, o3, o4, o5, o6, o7, o8, o9, oA, oB, oC, (by rw [hset_ne _ _ (show hi - 1 ≠ x by omega), hset_ne _ _ (show hi - 1 ≠ ar by omega)]; exact oD)⟩, (hset_eq _ _ _), ⟨fc, ((hset_ne _ _ (by omega)).trans ((hset_ne _ _ (by omega)).trans hac)), (fun i q1 q2 => ((hcs i q1 q2).keep (by omega)).keep (by omega))⟩, ⟨(va_up fr ((sRn S)).toNat v), ((hset_ne _ _ (by omega)).trans (hset_eq _ _ _)), (fun t q1 q2 => by by_cases q : t = sRn S; subst q; exact (va_up_self _ _ _).trans (va_up_self _ _ _).symm; exact ((va_up_ne _ _ (by omega)).trans (hrw t q1 (by have q3 : t < sRn S + 1 := q2; omega))).trans (va_up_ne _ _ (by omega)).symm)⟩, ⟨cm, ((hset_ne _ _ (by omega)).trans ((hset_ne _ _ (by omega)).trans hrr)), ((hset_ne _ _ (by omega)).trans ((hset_ne _ _ (by omega)).trans hcr)), hcm⟩, ⟨gt, ((hset_ne _ _ (by omega)).trans ((hset_ne _ _ (by omega)).trans hta)), ((hset_ne _ _ (by omega)).trans ((hset_ne _ _ (by omega)).trans htm)), htl⟩, ((hset_ne _ _ (by omega)).trans ((hset_ne _ _ (by omega)).trans hmk)), ⟨_, ((hset_ne _ _ (by omega)).trans ((hset_ne _ _ (by omega)).trans hmd))⟩, ⟨_, ((hset_ne _ _ (by omega)).trans ((hset_ne _ _ (by omega)).trans hon))⟩, ⟨_, ((hset_ne _ _ (by omega)).trans ((hset_ne _ _ (by omega)).trans hot))⟩⟩)) (fun r1 h1 q1 => ?_)
        obtain ⟨rfl, hCz, hFz⟩ := q1
        exact x_ireturn dX9_put_67 rfl (by omega) (by omega) (outC (by rw [oPut, if_neg (by omega), if_neg (by omega)]; rfl) hCz (Fr.trans (Fr.set (Fr.set Fr.refl (by omega)) (by omega)) hFz))
      · refine x_aload_n 0 dX9_put_32 rfl rfl ?_
        refine x_bipush dX9_put_33 (okI_c rfl) (by decide +kernel) ?_
        refine x_callV [vI ((-3))] dX9_put_35 kv_X9_59 rfl rfl hx (by omega) (Nat.le_of_ble_eq_true rfl) (by omega) (by omega) (k_X9_refused (d := 0) (S := S)  (hC)) (fun r1 h1 q1 => ?_)
        obtain ⟨rfl, hCz, hFz⟩ := q1
        exact x_ireturn dX9_put_38 rfl (by omega) (by omega) (outC (by rw [oPut, if_neg (by omega), if_pos (by omega)]; rfl) hCz (Fr.trans Fr.refl hFz))
    · refine x_aload_n 0 dX9_put_14 rfl rfl ?_
      refine x_iconst dX9_put_15 (okI_c rfl) ?_
      refine x_callV [vI ((-1))] dX9_put_16 kv_X9_59 rfl rfl hx (by omega) (Nat.le_of_ble_eq_true rfl) (by omega) (by omega) (k_X9_refused (d := 0) (S := S)  (hC)) (fun r1 h1 q1 => ?_)
      obtain ⟨rfl, hCz, hFz⟩ := q1
      exact x_ireturn dX9_put_19 rfl (by omega) (by omega) (outC (by rw [oPut, if_pos (by omega)]; rfl) hCz (Fr.trans Fr.refl hFz))
set_option maxRecDepth 100000 in
set_option maxHeartbeats 4000000 in
theorem k_X9_drop {G : aG} {d : Nat} (hd : 1 ≤ d) {x ac ar rr cr ta tm mk md on ot lo hi : Nat} {S : aS} {nc : Nat} {h : aH} (hC : CRel x ac ar rr cr ta tm mk md on ot lo hi S h) (hS : SOk nc S)  : MC G mX9_drop d 0 0 [vA x] h (COut x ac ar rr cr ta tm mk md on ot lo hi h vI (oDrop S)) := by
  obtain ⟨⟨o1, o2, o3, o4, o5, o6, o7, o8, o9, oA, oB, oC, oD⟩, hx, ⟨fc, hac, hcs⟩, ⟨fr, har, hrw⟩, ⟨cm, hrr, hcr, hcm⟩, ⟨gt, hta, htm, htl⟩, hmk, ⟨gm, hmd⟩, ⟨g1, hon⟩, ⟨g2, hot⟩⟩ := id hC
  obtain ⟨⟨s1, s2⟩, s3, ⟨s4, s5⟩, ⟨s6, s7, s8⟩, s9, ⟨s10, s11⟩, s12⟩ := id hS
  refine MC.of (by decide) (Nat.le_of_ble_eq_true rfl) (fun ok okh => ?_)
  show EX G mX9_drop d 0 0 _ 0 [(0, vA x)] [] h 0 0
  refine x_aload_n 0 dX9_drop_0 rfl rfl ?_
  refine x_get 4 dX9_drop_1 fl_X9_27 hx rfl ?_
  refine x_nmI (fun x1 e_x1 => ?_)
  refine x_istore_n (L' := [(1, vI x1), (0, vA x)]) dX9_drop_4 rfl (Nat.le_of_ble_eq_true rfl) rfl ?_
  refine x_aload_n 1 dX9_drop_5 rfl rfl ?_
  refine x_iconst dX9_drop_6 (okI_c rfl) ?_
  refine x_put 4 dX9_drop_7 pu_X9_27 hx rfl rfl (Nat.le_of_ble_eq_true rfl) ?_
  refine x_aload_n 1 dX9_drop_10 rfl rfl ?_
  refine x_iload_n 0 dX9_drop_11 rfl rfl ?_
  refine x_callV [vI x1] dX9_drop_12 kv_X9_63 rfl rfl (hset_eq _ _ _) (by omega) (Nat.le_of_ble_eq_true rfl) (by omega) (by omega) (k_X9_granted (d := 0) (S := sRow 0 (sRw S) S) (h := (hset h x (eO 8 [vA ac, vI ((sCu S)), vI ((sMu S)), vA ar, vI 0, vA rr, vI ((sSv S)), vA ta, vA mk, vI ((sLt S))]))) (⟨⟨o1, o2, o3, o4, o5, o6, o7, o8, o9, oA, oB, oC, (by rw [hset_ne _ _ (show hi - 1 ≠ x by omega)]; exact oD)⟩, (hset_eq _ _ _), ⟨fc, ((hset_ne _ _ (by omega)).trans hac), (fun i q1 q2 => (hcs i q1 q2).keep (by omega))⟩, ⟨fr, ((hset_ne _ _ (by omega)).trans har), (fun t q1 q2 => by have q3 : t < 0 := q2; omega)⟩, ⟨cm, ((hset_ne _ _ (by omega)).trans hrr), ((hset_ne _ _ (by omega)).trans hcr), hcm⟩, ⟨gt, ((hset_ne _ _ (by omega)).trans hta), ((hset_ne _ _ (by omega)).trans htm), htl⟩, ((hset_ne _ _ (by omega)).trans hmk), ⟨_, ((hset_ne _ _ (by omega)).trans hmd)⟩, ⟨_, ((hset_ne _ _ (by omega)).trans hon)⟩, ⟨_, ((hset_ne _ _ (by omega)).trans hot)⟩⟩)) (fun r1 h1 q1 => ?_)
  obtain ⟨rfl, hCz, hFz⟩ := q1
  exact x_ireturn dX9_drop_15 rfl (by omega) (by omega) (outC (by rw [oDrop, e_x1]; rfl) hCz (Fr.trans (Fr.set Fr.refl (by omega)) hFz))
set_option maxRecDepth 100000 in
set_option maxHeartbeats 4000000 in
theorem k_X9_stop {G : aG} {d : Nat} (hd : 1 ≤ d) {x ac ar rr cr ta tm mk md on ot lo hi : Nat} {S : aS} {nc : Nat} {h : aH} (hC : CRel x ac ar rr cr ta tm mk md on ot lo hi S h) (hS : SOk nc S)  : MC G mX9_stop d 0 0 [vA x] h (COut x ac ar rr cr ta tm mk md on ot lo hi h vI (oStop S)) := by
  obtain ⟨⟨o1, o2, o3, o4, o5, o6, o7, o8, o9, oA, oB, oC, oD⟩, hx, ⟨fc, hac, hcs⟩, ⟨fr, har, hrw⟩, ⟨cm, hrr, hcr, hcm⟩, ⟨gt, hta, htm, htl⟩, hmk, ⟨gm, hmd⟩, ⟨g1, hon⟩, ⟨g2, hot⟩⟩ := id hC
  obtain ⟨⟨s1, s2⟩, s3, ⟨s4, s5⟩, ⟨s6, s7, s8⟩, s9, ⟨s10, s11⟩, s12⟩ := id hS
  refine MC.of (by decide) (Nat.le_of_ble_eq_true rfl) (fun ok okh => ?_)
  show EX G mX9_stop d 0 0 _ 0 [(0, vA x)] [] h 0 0
  refine x_aload_n 0 dX9_stop_0 rfl rfl ?_
  refine x_get 5 dX9_stop_1 fl_X9_33 hx rfl ?_
  refine x_getN 1 dX9_stop_4 fl_X9_168 hrr rfl ?_
  refine x_nmI (fun x1 e_x1 => ?_)
  refine x_istore_n (L' := [(1, vI x1), (0, vA x)]) dX9_stop_7 rfl (Nat.le_of_ble_eq_true rfl) rfl ?_
  refine x_aload_n 1 dX9_stop_8 rfl rfl ?_
  refine x_get 5 dX9_stop_9 fl_X9_33 hx rfl ?_
  refine x_iconst dX9_stop_12 (okI_c rfl) ?_
  refine x_putN 1 dX9_stop_13 pu_X9_168 hrr rfl rfl (Nat.le_of_ble_eq_true rfl) ?_
  refine x_aload_n 1 dX9_stop_16 rfl rfl ?_
  refine x_iload_n 0 dX9_stop_17 rfl rfl ?_
  refine x_callV [vI x1] dX9_stop_18 kv_X9_63 rfl rfl ((hset_ne _ _ (by omega)).trans hx) (by omega) (Nat.le_of_ble_eq_true rfl) (by omega) (by omega) (k_X9_granted (d := 0) (S := sRun 0 (sSm S) S) (h := (hset h rr (eO 5 [vA cr, vI 0]))) (⟨⟨o1, o2, o3, o4, o5, o6, o7, o8, o9, oA, oB, oC, (by rw [hset_ne _ _ (show hi - 1 ≠ rr by omega)]; exact oD)⟩, ((hset_ne _ _ (by omega)).trans hx), ⟨fc, ((hset_ne _ _ (by omega)).trans hac), (fun i q1 q2 => (hcs i q1 q2).keep (by omega))⟩, ⟨fr, ((hset_ne _ _ (by omega)).trans har), hrw⟩, ⟨cm, (hset_eq _ _ _), ((hset_ne _ _ (by omega)).trans hcr), (fun k q1 q2 => hcm k q1 (by have q3 : k ≤ 0 := q2; have := s9.1; omega))⟩, ⟨gt, ((hset_ne _ _ (by omega)).trans hta), ((hset_ne _ _ (by omega)).trans htm), htl⟩, ((hset_ne _ _ (by omega)).trans hmk), ⟨_, ((hset_ne _ _ (by omega)).trans hmd)⟩, ⟨_, ((hset_ne _ _ (by omega)).trans hon)⟩, ⟨_, ((hset_ne _ _ (by omega)).trans hot)⟩⟩)) (fun r1 h1 q1 => ?_)
  obtain ⟨rfl, hCz, hFz⟩ := q1
  exact x_ireturn dX9_stop_21 rfl (by omega) (by omega) (outC (by rw [oStop, e_x1]; rfl) hCz (Fr.trans (Fr.set Fr.refl (by omega)) hFz))
set_option maxRecDepth 100000 in
set_option maxHeartbeats 4000000 in
theorem k_X9_count {G : aG} {d : Nat} (hd : 1 ≤ d) {x ac ar rr cr ta tm mk md on ot lo hi : Nat} {S : aS} {nc : Nat} {h : aH} (hC : CRel x ac ar rr cr ta tm mk md on ot lo hi S h) (hS : SOk nc S) {w : Int} : MC G mX9_count d 0 0 [vA x, vI w] h (COut x ac ar rr cr ta tm mk md on ot lo hi h vI (oCount w S)) := by
  obtain ⟨⟨o1, o2, o3, o4, o5, o6, o7, o8, o9, oA, oB, oC, oD⟩, hx, ⟨fc, hac, hcs⟩, ⟨fr, har, hrw⟩, ⟨cm, hrr, hcr, hcm⟩, ⟨gt, hta, htm, htl⟩, hmk, ⟨gm, hmd⟩, ⟨g1, hon⟩, ⟨g2, hot⟩⟩ := id hC
  obtain ⟨⟨s1, s2⟩, s3, ⟨s4, s5⟩, ⟨s6, s7, s8⟩, s9, ⟨s10, s11⟩, s12⟩ := id hS
  refine MC.of (by decide) (Nat.le_of_ble_eq_true rfl) (fun ok okh => ?_)
  show EX G mX9_count d 0 0 _ 0 [(0, vA x), (1, vI w)] [] h 0 0
  refine x_iload_n 1 dX9_count_0 rfl rfl ?_
  rcases (show w = 0 ∨ w = 1 ∨ w = 2 ∨ w = 3 ∨ w = 4 ∨ (w < 0 ∨ 4 < w) by omega) with cs | cs | cs | cs | cs | cs
  · refine x_tableIn 36 dX9_count_1 (by omega) (by omega) (by rw [cs]; rfl) (by decide) ?_
    refine x_aload_n 0 dX9_count_36 rfl rfl ?_
    refine x_get 1 dX9_count_37 fl_X9_15 hx rfl ?_
    exact x_ireturn dX9_count_40 rfl (by decide) (by decide) (outC (by simp [oCount, cs]) hC Fr.refl)
  · refine x_tableIn 41 dX9_count_1 (by omega) (by omega) (by rw [cs]; rfl) (by decide) ?_
    refine x_aload_n 0 dX9_count_41 rfl rfl ?_
    refine x_get 4 dX9_count_42 fl_X9_27 hx rfl ?_
    exact x_ireturn dX9_count_45 rfl (by decide) (by decide) (outC (by simp [oCount, cs]) hC Fr.refl)
  · refine x_tableIn 46 dX9_count_1 (by omega) (by omega) (by rw [cs]; rfl) (by decide) ?_
    refine x_aload_n 0 dX9_count_46 rfl rfl ?_
    refine x_get 5 dX9_count_47 fl_X9_33 hx rfl ?_
    refine x_getN 1 dX9_count_50 fl_X9_168 hrr rfl ?_
    exact x_ireturn dX9_count_53 rfl (by decide) (by decide) (outC (by simp [oCount, cs]) hC Fr.refl)
  · refine x_tableIn 54 dX9_count_1 (by omega) (by omega) (by rw [cs]; rfl) (by decide) ?_
    refine x_aload_n 0 dX9_count_54 rfl rfl ?_
    refine x_get 6 dX9_count_55 fl_X9_37 hx rfl ?_
    exact x_ireturn dX9_count_58 rfl (by decide) (by decide) (outC (by simp [oCount, cs]) hC Fr.refl)
  · refine x_tableIn 59 dX9_count_1 (by omega) (by omega) (by rw [cs]; rfl) (by decide) ?_
    refine x_aload_n 0 dX9_count_59 rfl rfl ?_
    refine x_get 2 dX9_count_60 fl_X9_19 hx rfl ?_
    refine x_if_eq 70 dX9_count_63 (by decide) (fun c_63 => ?_) (fun c_63 => ?_)
    · refine x_iconst dX9_count_70 (okI_c rfl) ?_
      exact x_ireturn dX9_count_71 rfl (by decide) (by decide) (outC (by rw [oCount, if_neg (by omega), if_neg (by omega), if_neg (by omega), if_neg (by omega), if_pos cs]; congr 1 <;> omega) hC Fr.refl)
    · refine x_iconst dX9_count_66 (okI_c rfl) ?_
      refine x_goto 71 dX9_count_67 (by decide) ?_
      exact x_ireturn dX9_count_71 rfl (by decide) (by decide) (outC (by rw [oCount, if_neg (by omega), if_neg (by omega), if_neg (by omega), if_neg (by omega), if_pos cs]; congr 1 <;> omega) hC Fr.refl)
  · refine x_tableOut 72 dX9_count_1 cs (by decide) ?_
    refine x_iconst dX9_count_72 (okI_c rfl) ?_
    exact x_ireturn dX9_count_73 rfl (by decide) (by decide) (outC (by rw [oCount, if_neg (by omega), if_neg (by omega), if_neg (by omega), if_neg (by omega), if_neg (by omega)]) hC Fr.refl)
set_option maxRecDepth 100000 in
set_option maxHeartbeats 4000000 in
theorem k_X9_trace {G : aG} {d : Nat} (hd : 1 ≤ d) {x ac ar rr cr ta tm mk md on ot lo hi : Nat} {S : aS} {nc : Nat} {h : aH} (hC : CRel x ac ar rr cr ta tm mk md on ot lo hi S h) (hS : SOk nc S) {b : Int} : MC G mX9_trace d 0 0 [vA x, vI b] h (COut x ac ar rr cr ta tm mk md on ot lo hi h vI (oTrace b S)) := by
  obtain ⟨⟨o1, o2, o3, o4, o5, o6, o7, o8, o9, oA, oB, oC, oD⟩, hx, ⟨fc, hac, hcs⟩, ⟨fr, har, hrw⟩, ⟨cm, hrr, hcr, hcm⟩, ⟨gt, hta, htm, htl⟩, hmk, ⟨gm, hmd⟩, ⟨g1, hon⟩, ⟨g2, hot⟩⟩ := id hC
  obtain ⟨⟨s1, s2⟩, s3, ⟨s4, s5⟩, ⟨s6, s7, s8⟩, s9, ⟨s10, s11⟩, s12⟩ := id hS
  refine MC.of (by decide) (Nat.le_of_ble_eq_true rfl) (fun ok okh => ?_)
  show EX G mX9_trace d 0 0 _ 0 [(0, vA x), (1, vI b)] [] h 0 0
  refine x_iload_n 1 dX9_trace_0 rfl rfl ?_
  refine x_if_lt 9 dX9_trace_1 (by decide) (fun c_1 => ?_) (fun c_1 => ?_)
  · refine x_iconst dX9_trace_9 (okI_c rfl) ?_
    exact x_ireturn dX9_trace_10 rfl (by decide) (by decide) (outC (by rw [oTrace, if_pos (by omega)]) hC Fr.refl)
  · refine x_iload_n 1 dX9_trace_4 rfl rfl ?_
    refine x_iconst dX9_trace_5 (okI_c rfl) ?_
    refine x_icmp_lt 11 dX9_trace_6 (by decide) (fun c_6 => ?_) (fun c_6 => ?_)
    · refine x_aload_n 0 dX9_trace_11 rfl rfl ?_
      refine x_get 7 dX9_trace_12 fl_X9_43 hx rfl ?_
      refine x_iload_n 1 dX9_trace_15 rfl rfl ?_
      refine x_callV [vI b] dX9_trace_16 kv_X9_204 rfl rfl hta (by omega) (Nat.le_of_ble_eq_true rfl) (by omega) (by omega) (k_X8_marks (d := 0) hta htm (by omega) (by omega)) (after_ret ?_)
      exact x_ireturn dX9_trace_19 rfl (by decide) (by decide) (outC (by rw [oTrace, if_neg (by omega), htl]) hC Fr.refl)
    · refine x_iconst dX9_trace_9 (okI_c rfl) ?_
      exact x_ireturn dX9_trace_10 rfl (by decide) (by decide) (outC (by rw [oTrace, if_pos (by omega)]) hC Fr.refl)
set_option maxRecDepth 100000 in
set_option maxHeartbeats 4000000 in
theorem k_X9_status {G : aG} {d : Nat} {x ac ar rr cr ta tm mk md on ot lo hi : Nat} {S : aS} {nc : Nat} {h : aH} (hC : CRel x ac ar rr cr ta tm mk md on ot lo hi S h) (hS : SOk nc S)  : MC G mX9_status d 0 0 [vA x] h (COut x ac ar rr cr ta tm mk md on ot lo hi h vI (oStatus S)) := by
  obtain ⟨⟨o1, o2, o3, o4, o5, o6, o7, o8, o9, oA, oB, oC, oD⟩, hx, ⟨fc, hac, hcs⟩, ⟨fr, har, hrw⟩, ⟨cm, hrr, hcr, hcm⟩, ⟨gt, hta, htm, htl⟩, hmk, ⟨gm, hmd⟩, ⟨g1, hon⟩, ⟨g2, hot⟩⟩ := id hC
  obtain ⟨⟨s1, s2⟩, s3, ⟨s4, s5⟩, ⟨s6, s7, s8⟩, s9, ⟨s10, s11⟩, s12⟩ := id hS
  refine MC.of (by decide) (Nat.le_of_ble_eq_true rfl) (fun ok okh => ?_)
  show EX G mX9_status d 0 0 _ 0 [(0, vA x)] [] h 0 0
  refine x_aload_n 0 dX9_status_0 rfl rfl ?_
  refine x_get 9 dX9_status_1 fl_X9_54 hx rfl ?_
  exact x_ireturn dX9_status_4 rfl (by decide) (by decide) (outC rfl hC Fr.refl)
/-- the curve of a number, as it lies in the cells -/
def CvX (h : aH) (hi : Nat) (S : aS) (f : Int) (c ci a : Nat) (am : Nat → Int) (ld : Int) : Prop := CvAt h c ci a (sT S f) (sD S f) (sC S f) am ld ∧ KindOk ci (sT S f) (sD S f) (sC S f) am ld ∧ CvOk (sT S f) (sD S f) (sC S f) am ∧ cval (sT S f) (sD S f) (sC S f) am = sF S f ∧ kindS (sT S f) (sD S f) (sC S f) am = sK S f ∧ (Closed (sT S f) (sD S f) (sC S f) am ↔ Closed (sT S f) (sD S f) (sC S f) (sA S f)) ∧ hi ≤ c ∧ hi ≤ a
theorem CvE.x {h : aH} {hi : Nat} {S : aS} {nc : Nat} {f : Int} {r : Option Nat} (hS : SOk nc S) (hf : isC S f) (k : CvE h hi r (sT S f) (sD S f) (sC S f) (sA S f)) : ∃ (c ci a : Nat) (am : Nat → Int) (ld : Int), r = some c ∧ CvX h hi S f c ci a am ld := by
  obtain ⟨c, ci, a, am, ld, h1, h2, h3, h4, h5, h6⟩ := k
  have ok := hS.2.1 f hf.1 hf.2
  obtain ⟨hT0, hT2, hD0, hD6, hC0, hC1, hA, hM, hW⟩ := id ok
  exact ⟨c, ci, a, am, ld, h1, h2, h3, ok.congr h4, cval_congr hT0 hD0 h4, kindS_congr hT0 hD0 h4, Closed_congr hT0 hD0 h4, h5, h6⟩
set_option maxRecDepth 100000 in
set_option maxHeartbeats 4000000 in
theorem k_X9_curveNumbered {G : aG} {d : Nat} {x ac ar rr cr ta tm mk md on ot lo hi : Nat} {S : aS} {nc : Nat} {h : aH} (hC : CRel x ac ar rr cr ta tm mk md on ot lo hi S h) (hS : SOk nc S) {f : Int} : MC G mX9_curveNumbered d 0 0 [vA x, vI f] h (fun r' h' => (h' = h ∧ ¬ isC S f ∧ r' = some vN) ∨ (h' = h ∧ isC S f ∧ ∃ (c ci a : Nat) (am : Nat → Int) (ld : Int), r' = some (vA c) ∧ CvX h hi S f c ci a am ld)) := by
  obtain ⟨⟨o1, o2, o3, o4, o5, o6, o7, o8, o9, oA, oB, oC, oD⟩, hx, ⟨fc, hac, hcs⟩, ⟨fr, har, hrw⟩, ⟨cm, hrr, hcr, hcm⟩, ⟨gt, hta, htm, htl⟩, hmk, ⟨gm, hmd⟩, ⟨g1, hon⟩, ⟨g2, hot⟩⟩ := id hC
  obtain ⟨⟨s1, s2⟩, s3, ⟨s4, s5⟩, ⟨s6, s7, s8⟩, s9, ⟨s10, s11⟩, s12⟩ := id hS
  refine MC.of (by decide) (Nat.le_of_ble_eq_true rfl) (fun ok okh => ?_)
  show EX G mX9_curveNumbered d 0 0 _ 0 [(0, vA x), (1, vI f)] [] h 0 0
  refine x_iload_n 1 dX9_curveNumbered_0 rfl rfl ?_
  refine x_if_lt 21 dX9_curveNumbered_1 (by decide) (fun c_1 => ?_) (fun c_1 => ?_)
  · refine x_null dX9_curveNumbered_21 ?_
    refine x_goto 31 dX9_curveNumbered_22 (by decide) ?_
    exact x_areturn (r := none) dX9_curveNumbered_31 rfl (by first | exact Or.inl ⟨_, rfl⟩ | exact Or.inr ⟨_, rfl⟩) (by decide) (by decide) (Or.inl ⟨rfl, fun z => by have z1 := z.1; have z2 := z.2; omega, rfl⟩)
  · refine x_iload_n 1 dX9_curveNumbered_4 rfl rfl ?_
    refine x_aload_n 0 dX9_curveNumbered_5 rfl rfl ?_
    refine x_get 1 dX9_curveNumbered_6 fl_X9_15 hx rfl ?_
    refine x_icmp_ge 21 dX9_curveNumbered_9 (by decide) (fun c_9 => ?_) (fun c_9 => ?_)
    · refine x_null dX9_curveNumbered_21 ?_
      refine x_goto 31 dX9_curveNumbered_22 (by decide) ?_
      exact x_areturn (r := none) dX9_curveNumbered_31 rfl (by first | exact Or.inl ⟨_, rfl⟩ | exact Or.inr ⟨_, rfl⟩) (by decide) (by decide) (Or.inl ⟨rfl, fun z => by have z1 := z.1; have z2 := z.2; omega, rfl⟩)
    · refine x_iload_n 1 dX9_curveNumbered_12 rfl rfl ?_
      refine x_aload_n 0 dX9_curveNumbered_13 rfl rfl ?_
      refine x_get 0 dX9_curveNumbered_14 fl_X9_11 hx rfl ?_
      refine x_alenR dX9_curveNumbered_17 hac (by omega) ?_
      refine x_icmp_lt 25 dX9_curveNumbered_18 (by decide) (fun c_18 => ?_) (fun c_18 => (by exfalso; omega))
      obtain ⟨c, ci, a, am, ld, hr, hcx⟩ := (hcs f c_1 c_9).x hS ⟨c_1, c_9⟩
      refine x_aload_n 0 dX9_curveNumbered_25 rfl rfl ?_
      refine x_get 0 dX9_curveNumbered_26 fl_X9_11 hx rfl ?_
      refine x_iload_n 1 dX9_curveNumbered_29 rfl rfl ?_
      refine x_aaload dX9_curveNumbered_30 hac (by omega) (by omega) ?_
      refine x_asR hr ?_
      exact x_areturn (r := some c) dX9_curveNumbered_31 rfl (by first | exact Or.inl ⟨_, rfl⟩ | exact Or.inr ⟨_, rfl⟩) (by decide) (by decide) (Or.inr ⟨rfl, ⟨c_1, c_9⟩, c, ci, a, am, ld, rfl, hcx⟩)
