/-! ===== FlowCurves: about, the run, at ===== -/
set_option maxRecDepth 100000 in
set_option maxHeartbeats 4000000 in
theorem k_X9_about {G : aG} {d : Nat} (hd : 5 ≤ d) {x ac ar rr cr ta tm mk md on ot lo hi : Nat} {S : aS} {nc : Nat} {h : aH} (hC : CRel x ac ar rr cr ta tm mk md on ot lo hi S h) (hS : SOk nc S) {f : Int} {w : Int} : MC G mX9_about d 0 0 [vA x, vI f, vI w] h (COut x ac ar rr cr ta tm mk md on ot lo hi h vI (oAbout f w S)) := by
  obtain ⟨⟨o1, o2, o3, o4, o5, o6, o7, o8, o9, oA, oB, oC, oD⟩, hx, ⟨fc, hac, hcs⟩, ⟨fr, har, hrw⟩, ⟨cm, hrr, hcr, hcm⟩, ⟨gt, hta, htm, htl⟩, hmk, ⟨gm, hmd⟩, ⟨g1, hon⟩, ⟨g2, hot⟩⟩ := id hC
  obtain ⟨⟨s1, s2⟩, s3, ⟨s4, s5⟩, ⟨s6, s7, s8⟩, s9, ⟨s10, s11⟩, s12⟩ := id hS
  refine MC.of (by decide) (Nat.le_of_ble_eq_true rfl) (fun ok okh => ?_)
  show EX G mX9_about d 0 0 _ 0 [(0, vA x), (1, vI f), (2, vI w)] [] h 0 0
  refine x_aload_n 0 dX9_about_0 rfl rfl ?_
  refine x_iload_n 1 dX9_about_1 rfl rfl ?_
  refine x_callV [vI f] dX9_about_2 kv_X9_90 rfl rfl hx (by omega) (Nat.le_of_ble_eq_true rfl) (by omega) (by omega) (k_X9_curveNumbered (d := 0) hC hS (f := f)) (fun r1 h1 q1 => ?_)
  rcases q1 with ⟨e2, hn1, rfl⟩ | ⟨e2, hf1, c1, ci1, a1, am1, ld1, rfl, hcx1⟩
  · rw [e2]
    show EX G mX9_about d 0 0 _ _ _ [vN] _ _ _
    refine x_astorer_n (L' := [(3, vN), (0, vA x), (1, vI f), (2, vI w)]) dX9_about_5 rfl (Nat.le_of_ble_eq_true rfl) rfl ?_
    refine x_aloadr_n 0 dX9_about_6 rfl rfl ?_
    refine x_ifnonnull (r := none) 16 dX9_about_7 (by decide) (fun z => nomatch z) (fun _ => ?_)
    refine x_aload_n 1 dX9_about_10 rfl rfl ?_
    refine x_iconst dX9_about_11 (okI_c rfl) ?_
    refine x_callV [vI ((-1))] dX9_about_12 kv_X9_59 rfl rfl hx (by omega) (Nat.le_of_ble_eq_true rfl) (by omega) (by omega) (k_X9_refused (d := 0) (S := S)  (hC)) (fun r1 h1 q1 => ?_)
    obtain ⟨rfl, hCz, hFz⟩ := q1
    exact x_ireturn dX9_about_15 rfl (by omega) (by omega) (outC (by rw [oAbout, cond_t (Or.inl hn1)]; rfl) hCz (Fr.trans Fr.refl hFz))
  · rw [e2]
    obtain ⟨hcv1, hki1, hok1, hF1, hK1, hL1, hi1, ha1⟩ := id hcx1
    show EX G mX9_about d 0 0 _ _ _ [vA c1] _ _ _
    refine x_astore_n (L' := [(3, vA c1), (0, vA x), (1, vI f), (2, vI w)]) dX9_about_5 rfl (Nat.le_of_ble_eq_true rfl) rfl ?_
    refine x_aload_n 0 dX9_about_6 rfl rfl ?_
    refine x_ifnonnull (r := some c1) 16 dX9_about_7 (by decide) (fun _ => ?_) (fun z => nomatch z)
    refine x_iload_n 3 dX9_about_16 rfl rfl ?_
    rcases (show w = 0 ∨ w = 1 ∨ w = 2 ∨ w = 3 ∨ w = 4 ∨ (w < 0 ∨ 4 < w) by omega) with cs | cs | cs | cs | cs | cs
    · refine x_tableIn 52 dX9_about_17 (by omega) (by omega) (by rw [cs]; rfl) (by decide) ?_
      refine x_aload_n 1 dX9_about_52 rfl rfl ?_
      refine x_aload_n 0 dX9_about_53 rfl rfl ?_
      refine x_get 0 dX9_about_54 (fl_X9_126 _ hcv1.2.2) hcv1.1 rfl ?_
      refine x_callV [vI ((sT S f))] dX9_about_57 kv_X9_63 rfl rfl hx (by omega) (Nat.le_of_ble_eq_true rfl) (by omega) (by omega) (k_X9_granted (d := 0) (S := S)  (hC)) (fun r1 h1 q1 => ?_)
      obtain ⟨rfl, hCz, hFz⟩ := q1
      exact x_ireturn dX9_about_60 rfl (by omega) (by omega) (outC (by rw [oAbout, cond_f (fun z => z.elim (fun y => y hf1) (fun y => by omega))]; rw [if_pos cs]; rfl) hCz (Fr.trans Fr.refl hFz))
    · refine x_tableIn 61 dX9_about_17 (by omega) (by omega) (by rw [cs]; rfl) (by decide) ?_
      refine x_aload_n 1 dX9_about_61 rfl rfl ?_
      refine x_aload_n 0 dX9_about_62 rfl rfl ?_
      refine x_get 1 dX9_about_63 (fl_X9_129 _ hcv1.2.2) hcv1.1 rfl ?_
      refine x_callV [vI ((sD S f))] dX9_about_66 kv_X9_63 rfl rfl hx (by omega) (Nat.le_of_ble_eq_true rfl) (by omega) (by omega) (k_X9_granted (d := 0) (S := S)  (hC)) (fun r1 h1 q1 => ?_)
      obtain ⟨rfl, hCz, hFz⟩ := q1
      exact x_ireturn dX9_about_69 rfl (by omega) (by omega) (outC (by rw [oAbout, cond_f (fun z => z.elim (fun y => y hf1) (fun y => by omega))]; rw [if_neg (by omega), if_pos cs]; rfl) hCz (Fr.trans Fr.refl hFz))
    · refine x_tableIn 70 dX9_about_17 (by omega) (by omega) (by rw [cs]; rfl) (by decide) ?_
      refine x_aload_n 1 dX9_about_70 rfl rfl ?_
      refine x_aload_n 0 dX9_about_71 rfl rfl ?_
      refine x_get 2 dX9_about_72 (fl_X9_132 _ hcv1.2.2) hcv1.1 rfl ?_
      refine x_callV [vI ((sC S f))] dX9_about_75 kv_X9_63 rfl rfl hx (by omega) (Nat.le_of_ble_eq_true rfl) (by omega) (by omega) (k_X9_granted (d := 0) (S := S)  (hC)) (fun r1 h1 q1 => ?_)
      obtain ⟨rfl, hCz, hFz⟩ := q1
      exact x_ireturn dX9_about_78 rfl (by omega) (by omega) (outC (by rw [oAbout, cond_f (fun z => z.elim (fun y => y hf1) (fun y => by omega))]; rw [if_neg (by omega), if_neg (by omega), if_pos cs]; rfl) hCz (Fr.trans Fr.refl hFz))
    · refine x_tableIn 79 dX9_about_17 (by omega) (by omega) (by rw [cs]; rfl) (by decide) ?_
      refine x_aload_n 1 dX9_about_79 rfl rfl ?_
      refine x_aload_n 0 dX9_about_80 rfl rfl ?_
      refine x_kind9 dX9_about_81 rfl hcv1 (by omega) (Nat.le_of_ble_eq_true rfl) (by omega) (by omega) ?_
      refine x_callV [vI ((kindN ci1))] dX9_about_84 kv_X9_63 rfl rfl hx (by omega) (Nat.le_of_ble_eq_true rfl) (by omega) (by omega) (k_X9_granted (d := 0) (S := S)  (hC)) (fun r1 h1 q1 => ?_)
      obtain ⟨rfl, hCz, hFz⟩ := q1
      exact x_ireturn dX9_about_87 rfl (by omega) (by omega) (outC (by rw [oAbout, cond_f (fun z => z.elim (fun y => y hf1) (fun y => by omega))]; rw [if_neg (by omega), if_neg (by omega), if_neg (by omega), if_pos cs, ← hK1, hki1.1]; rfl) hCz (Fr.trans Fr.refl hFz))
    · refine x_tableIn 88 dX9_about_17 (by omega) (by omega) (by rw [cs]; rfl) (by decide) ?_
      refine x_aload_n 1 dX9_about_88 rfl rfl ?_
      refine x_aload_n 0 dX9_about_89 rfl rfl ?_
      refine x_callU [] dX9_about_90 (ku_X9_139 _ hcv1.2.2) rfl rfl hcv1.1 (by omega) (Nat.le_of_ble_eq_true rfl) (by omega) (by omega) (k_X1_isClosed (d := 1) (by omega) hcv1 hok1) (after_ret ?_)
      refine x_if_eq 100 dX9_about_93 (by decide) (fun c_93 => ?_) (fun c_93 => ?_)
      · refine x_iconst dX9_about_100 (okI_c rfl) ?_
        refine x_callV [vI 0] dX9_about_101 kv_X9_63 rfl rfl hx (by omega) (Nat.le_of_ble_eq_true rfl) (by omega) (by omega) (k_X9_granted (d := 0) (S := S)  (hC)) (fun r1 h1 q1 => ?_)
        obtain ⟨rfl, hCz, hFz⟩ := q1
        exact x_ireturn dX9_about_104 rfl (by omega) (by omega) (outC (by rw [oAbout, cond_f (fun z => z.elim (fun y => y hf1) (fun y => by omega))]; rw [if_neg (by omega), if_neg (by omega), if_neg (by omega), if_neg (by omega)]; exact congrArg (fun z : Int => (z, sLa 0 S)) (b2i_f (fun z => b2i_eq c_93 (hL1.mpr z)))) hCz (Fr.trans Fr.refl hFz))
      · refine x_iconst dX9_about_96 (okI_c rfl) ?_
        refine x_goto 101 dX9_about_97 (by decide) ?_
        refine x_callV [vI 1] dX9_about_101 kv_X9_63 rfl rfl hx (by omega) (Nat.le_of_ble_eq_true rfl) (by omega) (by omega) (k_X9_granted (d := 0) (S := S)  (hC)) (fun r1 h1 q1 => ?_)
        obtain ⟨rfl, hCz, hFz⟩ := q1
        exact x_ireturn dX9_about_104 rfl (by omega) (by omega) (outC (by rw [oAbout, cond_f (fun z => z.elim (fun y => y hf1) (fun y => by omega))]; rw [if_neg (by omega), if_neg (by omega), if_neg (by omega), if_neg (by omega)]; exact congrArg (fun z : Int => (z, sLa 0 S)) (b2i_t (hL1.mp (b2i_ne c_93)))) hCz (Fr.trans Fr.refl hFz))
    · refine x_tableOut 105 dX9_about_17 cs (by decide) ?_
      refine x_aload_n 1 dX9_about_105 rfl rfl ?_
      refine x_iconst dX9_about_106 (okI_c rfl) ?_
      refine x_callV [vI ((-1))] dX9_about_107 kv_X9_59 rfl rfl hx (by omega) (Nat.le_of_ble_eq_true rfl) (by omega) (by omega) (k_X9_refused (d := 0) (S := S)  (hC)) (fun r1 h1 q1 => ?_)
      obtain ⟨rfl, hCz, hFz⟩ := q1
      exact x_ireturn dX9_about_110 rfl (by omega) (by omega) (outC (by rw [oAbout, cond_t (Or.inr (by omega))]; rfl) hCz (Fr.trans Fr.refl hFz))
set_option maxRecDepth 100000 in
set_option maxHeartbeats 4000000 in
theorem k_X9_moved {G : aG} {d : Nat} (hd : 5 ≤ d) {x ac ar rr cr ta tm mk md on ot lo hi : Nat} {S : aS} {nc : Nat} {h : aH} (hC : CRel x ac ar rr cr ta tm mk md on ot lo hi S h) (hS : SOk nc S) {sd : Int} {t : Int} : MC G mX9_moved d 0 0 [vA x, vI sd, vI t] h (COut x ac ar rr cr ta tm mk md on ot lo hi h vJ (oMoved sd t S)) := by
  obtain ⟨⟨o1, o2, o3, o4, o5, o6, o7, o8, o9, oA, oB, oC, oD⟩, hx, ⟨fc, hac, hcs⟩, ⟨fr, har, hrw⟩, ⟨cm, hrr, hcr, hcm⟩, ⟨gt, hta, htm, htl⟩, hmk, ⟨gm, hmd⟩, ⟨g1, hon⟩, ⟨g2, hot⟩⟩ := id hC
  obtain ⟨⟨s1, s2⟩, s3, ⟨s4, s5⟩, ⟨s6, s7, s8⟩, s9, ⟨s10, s11⟩, s12⟩ := id hS
  refine MC.of (by decide) (Nat.le_of_ble_eq_true rfl) (fun ok okh => ?_)
  show EX G mX9_moved d 0 0 _ 0 [(0, vA x), (1, vI sd), (2, vI t)] [] h 0 0
  refine x_iload_n 1 dX9_moved_0 rfl rfl ?_
  refine x_if_lt 20 dX9_moved_1 (by decide) (fun c_1 => ?_) (fun c_1 => ?_)
  · refine x_aload_n 0 dX9_moved_20 rfl rfl ?_
    refine x_iconst dX9_moved_21 (okI_c rfl) ?_
    refine x_callV [vI ((-1))] dX9_moved_22 kv_X9_114 rfl rfl hx (by omega) (Nat.le_of_ble_eq_true rfl) (by omega) (by omega) (k_X9_refusedAmount (d := 0) (S := S)  (hC)) (fun r1 h1 q1 => ?_)
    obtain ⟨rfl, hCz, hFz⟩ := q1
    exact x_lreturn dX9_moved_25 rfl (by omega) (by omega) (outC (by rw [oMoved, if_pos (by omega)]; rfl) hCz (Fr.trans Fr.refl hFz))
  · refine x_iload_n 1 dX9_moved_4 rfl rfl ?_
    refine x_iconst dX9_moved_5 (okI_c rfl) ?_
    refine x_icmp_gt 20 dX9_moved_6 (by decide) (fun c_6 => ?_) (fun c_6 => ?_)
    · refine x_aload_n 0 dX9_moved_20 rfl rfl ?_
      refine x_iconst dX9_moved_21 (okI_c rfl) ?_
      refine x_callV [vI ((-1))] dX9_moved_22 kv_X9_114 rfl rfl hx (by omega) (Nat.le_of_ble_eq_true rfl) (by omega) (by omega) (k_X9_refusedAmount (d := 0) (S := S)  (hC)) (fun r1 h1 q1 => ?_)
      obtain ⟨rfl, hCz, hFz⟩ := q1
      exact x_lreturn dX9_moved_25 rfl (by omega) (by omega) (outC (by rw [oMoved, if_pos (by omega)]; rfl) hCz (Fr.trans Fr.refl hFz))
    · refine x_iload_n 2 dX9_moved_9 rfl rfl ?_
      refine x_if_lt 20 dX9_moved_10 (by decide) (fun c_10 => ?_) (fun c_10 => ?_)
      · refine x_aload_n 0 dX9_moved_20 rfl rfl ?_
        refine x_iconst dX9_moved_21 (okI_c rfl) ?_
        refine x_callV [vI ((-1))] dX9_moved_22 kv_X9_114 rfl rfl hx (by omega) (Nat.le_of_ble_eq_true rfl) (by omega) (by omega) (k_X9_refusedAmount (d := 0) (S := S)  (hC)) (fun r1 h1 q1 => ?_)
        obtain ⟨rfl, hCz, hFz⟩ := q1
        exact x_lreturn dX9_moved_25 rfl (by omega) (by omega) (outC (by rw [oMoved, if_pos (by omega)]; rfl) hCz (Fr.trans Fr.refl hFz))
      · refine x_iload_n 2 dX9_moved_13 rfl rfl ?_
        refine x_sipush dX9_moved_14 (okI_c rfl) (by decide +kernel) ?_
        refine x_icmp_le 26 dX9_moved_17 (by decide) (fun c_17 => ?_) (fun c_17 => ?_)
        · refine x_iload_n 1 dX9_moved_26 rfl rfl ?_
          refine x_if_ne 43 dX9_moved_27 (by decide) (fun c_27 => ?_) (fun c_27 => ?_)
          · refine x_aload_n 0 dX9_moved_43 rfl rfl ?_
            refine x_aload_n 0 dX9_moved_44 rfl rfl ?_
            refine x_get 6 dX9_moved_45 fl_X9_37 hx rfl ?_
            refine x_callV [vI ((sSv S))] dX9_moved_48 kv_X9_90 rfl rfl hx (by omega) (Nat.le_of_ble_eq_true rfl) (by omega) (by omega) (k_X9_curveNumbered (d := 0) hC hS (f := (sSv S))) (fun r1 h1 q1 => ?_)
            rcases q1 with ⟨e2, hn1, rfl⟩ | ⟨e2, hf1, c1, ci1, a1, am1, ld1, rfl, hcx1⟩
            · rw [e2]
              show EX G mX9_moved d 0 0 _ _ _ [vN] _ _ _
              refine x_astorer_n (L' := [(3, vN), (0, vA x), (1, vI sd), (2, vI t)]) dX9_moved_51 rfl (Nat.le_of_ble_eq_true rfl) rfl ?_
              refine x_aloadr_n 0 dX9_moved_52 rfl rfl ?_
              refine x_ifnonnull (r := none) 63 dX9_moved_53 (by decide) (fun z => nomatch z) (fun _ => ?_)
              refine x_aload_n 1 dX9_moved_56 rfl rfl ?_
              refine x_bipush dX9_moved_57 (okI_c rfl) (by decide +kernel) ?_
              refine x_callV [vI ((-2))] dX9_moved_59 kv_X9_114 rfl rfl hx (by omega) (Nat.le_of_ble_eq_true rfl) (by omega) (by omega) (k_X9_refusedAmount (d := 0) (S := S)  (hC)) (fun r1 h1 q1 => ?_)
              obtain ⟨rfl, hCz, hFz⟩ := q1
              exact x_lreturn dX9_moved_62 rfl (by omega) (by omega) (outC (by rw [oMoved, if_neg (by omega), if_neg (by omega), if_pos (by refine Classical.byContradiction fun z => hn1 ⟨by omega, s11⟩)]; rfl) hCz (Fr.trans Fr.refl hFz))
            · rw [e2]
              obtain ⟨hcv1, hki1, hok1, hF1, hK1, hL1, hi1, ha1⟩ := id hcx1
              show EX G mX9_moved d 0 0 _ _ _ [vA c1] _ _ _
              refine x_astore_n (L' := [(3, vA c1), (0, vA x), (1, vI sd), (2, vI t)]) dX9_moved_51 rfl (Nat.le_of_ble_eq_true rfl) rfl ?_
              refine x_aload_n 0 dX9_moved_52 rfl rfl ?_
              refine x_ifnonnull (r := some c1) 63 dX9_moved_53 (by decide) (fun _ => ?_) (fun z => nomatch z)
              refine x_aload_n 1 dX9_moved_63 rfl rfl ?_
              refine x_iload_n 2 dX9_moved_64 rfl rfl ?_
              refine x_iconst dX9_moved_65 (okI_c rfl) ?_
              refine x_icmp_ne 81 dX9_moved_66 (by decide) (fun c_66 => ?_) (fun c_66 => ?_)
              · refine x_aload_n 1 dX9_moved_81 rfl rfl ?_
                refine x_get 5 dX9_moved_82 fl_X9_33 hx rfl ?_
                refine x_aload_n 0 dX9_moved_85 rfl rfl ?_
                refine x_iload_n 3 dX9_moved_86 rfl rfl ?_
                refine x_callV [vA c1, vI t] dX9_moved_87 kv_X9_186 rfl rfl hrr (by omega) (Nat.le_of_ble_eq_true rfl) (by omega) (by omega) (k_X6_held (d := 3) (by omega) ⟨hrr, hcr⟩ ⟨s9, hcm⟩ hcv1 hok1 (t := t) (by omega) (by omega)) (after_ret ?_)
                refine x_callV [vJ ((arrS (sSn S) (sSm S) t - servS (sSn S) (sSm S) (cval (sT S (sSv S)) (sD S (sSv S)) (sC S (sSv S)) am1) t))] dX9_moved_90 kv_X9_122 rfl rfl hx (by omega) (Nat.le_of_ble_eq_true rfl) (by omega) (by omega) (k_X9_grantedAmount (d := 0) (S := S)  (hC)) (fun r1 h1 q1 => ?_)
                obtain ⟨rfl, hCz, hFz⟩ := q1
                exact x_lreturn dX9_moved_93 rfl (by omega) (by omega) (outC (by rw [oMoved, if_neg (by omega), if_neg (by omega), if_neg (by have := hf1.1; omega)]; first | (rw [if_pos (by omega), ← hF1]; rfl) | (rw [if_neg (by omega), ← hF1]; rfl)) hCz (Fr.trans Fr.refl hFz))
              · refine x_aload_n 1 dX9_moved_69 rfl rfl ?_
                refine x_get 5 dX9_moved_70 fl_X9_33 hx rfl ?_
                refine x_aload_n 0 dX9_moved_73 rfl rfl ?_
                refine x_iload_n 3 dX9_moved_74 rfl rfl ?_
                refine x_callV [vA c1, vI t] dX9_moved_75 kv_X9_182 rfl rfl hrr (by omega) (Nat.le_of_ble_eq_true rfl) (by omega) (by omega) (k_X6_passed (d := 2) (by omega) ⟨hrr, hcr⟩ ⟨s9, hcm⟩ hcv1 hok1 (t := t) (by omega) (by omega)) (after_ret ?_)
                refine x_goto 90 dX9_moved_78 (by decide) ?_
                refine x_callV [vJ ((servS (sSn S) (sSm S) (cval (sT S (sSv S)) (sD S (sSv S)) (sC S (sSv S)) am1) t))] dX9_moved_90 kv_X9_122 rfl rfl hx (by omega) (Nat.le_of_ble_eq_true rfl) (by omega) (by omega) (k_X9_grantedAmount (d := 0) (S := S)  (hC)) (fun r1 h1 q1 => ?_)
                obtain ⟨rfl, hCz, hFz⟩ := q1
                exact x_lreturn dX9_moved_93 rfl (by omega) (by omega) (outC (by rw [oMoved, if_neg (by omega), if_neg (by omega), if_neg (by have := hf1.1; omega)]; first | (rw [if_pos (by omega), ← hF1]; rfl) | (rw [if_neg (by omega), ← hF1]; rfl)) hCz (Fr.trans Fr.refl hFz))
          · refine x_aload_n 0 dX9_moved_30 rfl rfl ?_
            refine x_aload_n 0 dX9_moved_31 rfl rfl ?_
            refine x_get 5 dX9_moved_32 fl_X9_33 hx rfl ?_
            refine x_iload_n 2 dX9_moved_35 rfl rfl ?_
            refine x_callV [vI t] dX9_moved_36 kv_X9_179 rfl rfl hrr (by omega) (Nat.le_of_ble_eq_true rfl) (by omega) (by omega) (k_X6_arrived (d := 1) (by omega) ⟨hrr, hcr⟩ ⟨s9, hcm⟩ (t := t) (by omega)) (after_ret ?_)
            refine x_callV [vJ ((arrS (sSn S) (sSm S) t))] dX9_moved_39 kv_X9_122 rfl rfl hx (by omega) (Nat.le_of_ble_eq_true rfl) (by omega) (by omega) (k_X9_grantedAmount (d := 0) (S := S)  (hC)) (fun r1 h1 q1 => ?_)
            obtain ⟨rfl, hCz, hFz⟩ := q1
            exact x_lreturn dX9_moved_42 rfl (by omega) (by omega) (outC (by rw [oMoved, if_neg (by omega), if_pos (by omega)]; rfl) hCz (Fr.trans Fr.refl hFz))
        · refine x_aload_n 0 dX9_moved_20 rfl rfl ?_
          refine x_iconst dX9_moved_21 (okI_c rfl) ?_
          refine x_callV [vI ((-1))] dX9_moved_22 kv_X9_114 rfl rfl hx (by omega) (Nat.le_of_ble_eq_true rfl) (by omega) (by omega) (k_X9_refusedAmount (d := 0) (S := S)  (hC)) (fun r1 h1 q1 => ?_)
          obtain ⟨rfl, hCz, hFz⟩ := q1
          exact x_lreturn dX9_moved_25 rfl (by omega) (by omega) (outC (by rw [oMoved, if_pos (by omega)]; rfl) hCz (Fr.trans Fr.refl hFz))
set_option maxRecDepth 100000 in
set_option maxHeartbeats 4000000 in
theorem k_X9_late {G : aG} {d : Nat} (hd : 5 ≤ d) {x ac ar rr cr ta tm mk md on ot lo hi : Nat} {S : aS} {nc : Nat} {h : aH} (hC : CRel x ac ar rr cr ta tm mk md on ot lo hi S h) (hS : SOk nc S) {t : Int} : MC G mX9_late d 0 0 [vA x, vI t] h (COut x ac ar rr cr ta tm mk md on ot lo hi h vI (oLate t S)) := by
  obtain ⟨⟨o1, o2, o3, o4, o5, o6, o7, o8, o9, oA, oB, oC, oD⟩, hx, ⟨fc, hac, hcs⟩, ⟨fr, har, hrw⟩, ⟨cm, hrr, hcr, hcm⟩, ⟨gt, hta, htm, htl⟩, hmk, ⟨gm, hmd⟩, ⟨g1, hon⟩, ⟨g2, hot⟩⟩ := id hC
  obtain ⟨⟨s1, s2⟩, s3, ⟨s4, s5⟩, ⟨s6, s7, s8⟩, s9, ⟨s10, s11⟩, s12⟩ := id hS
  refine MC.of (by decide) (Nat.le_of_ble_eq_true rfl) (fun ok okh => ?_)
  show EX G mX9_late d 0 0 _ 0 [(0, vA x), (1, vI t)] [] h 0 0
  refine x_iload_n 1 dX9_late_0 rfl rfl ?_
  refine x_if_lt 15 dX9_late_1 (by decide) (fun c_1 => ?_) (fun c_1 => ?_)
  · refine x_aload_n 0 dX9_late_15 rfl rfl ?_
    refine x_iconst dX9_late_16 (okI_c rfl) ?_
    refine x_callV [vI ((-1))] dX9_late_17 kv_X9_59 rfl rfl hx (by omega) (Nat.le_of_ble_eq_true rfl) (by omega) (by omega) (k_X9_refused (d := 0) (S := S)  (hC)) (fun r1 h1 q1 => ?_)
    obtain ⟨rfl, hCz, hFz⟩ := q1
    exact x_ireturn dX9_late_20 rfl (by omega) (by omega) (outC (by rw [oLate, if_pos (by omega)]; rfl) hCz (Fr.trans Fr.refl hFz))
  · refine x_iload_n 1 dX9_late_4 rfl rfl ?_
    refine x_aload_n 0 dX9_late_5 rfl rfl ?_
    refine x_get 5 dX9_late_6 fl_X9_33 hx rfl ?_
    refine x_getN 1 dX9_late_9 fl_X9_168 hrr rfl ?_
    refine x_icmp_le 21 dX9_late_12 (by decide) (fun c_12 => ?_) (fun c_12 => ?_)
    · refine x_aload_n 0 dX9_late_21 rfl rfl ?_
      refine x_aload_n 0 dX9_late_22 rfl rfl ?_
      refine x_get 6 dX9_late_23 fl_X9_37 hx rfl ?_
      refine x_callV [vI ((sSv S))] dX9_late_26 kv_X9_90 rfl rfl hx (by omega) (Nat.le_of_ble_eq_true rfl) (by omega) (by omega) (k_X9_curveNumbered (d := 0) hC hS (f := (sSv S))) (fun r1 h1 q1 => ?_)
      rcases q1 with ⟨e2, hn1, rfl⟩ | ⟨e2, hf1, c1, ci1, a1, am1, ld1, rfl, hcx1⟩
      · rw [e2]
        show EX G mX9_late d 0 0 _ _ _ [vN] _ _ _
        refine x_astorer_n (L' := [(2, vN), (0, vA x), (1, vI t)]) dX9_late_29 rfl (Nat.le_of_ble_eq_true rfl) rfl ?_
        refine x_aloadr_n 0 dX9_late_30 rfl rfl ?_
        refine x_ifnonnull (r := none) 41 dX9_late_31 (by decide) (fun z => nomatch z) (fun _ => ?_)
        refine x_aload_n 1 dX9_late_34 rfl rfl ?_
        refine x_bipush dX9_late_35 (okI_c rfl) (by decide +kernel) ?_
        refine x_callV [vI ((-2))] dX9_late_37 kv_X9_59 rfl rfl hx (by omega) (Nat.le_of_ble_eq_true rfl) (by omega) (by omega) (k_X9_refused (d := 0) (S := S)  (hC)) (fun r1 h1 q1 => ?_)
        obtain ⟨rfl, hCz, hFz⟩ := q1
        exact x_ireturn dX9_late_40 rfl (by omega) (by omega) (outC (by rw [oLate, if_neg (by omega), if_pos (by refine Classical.byContradiction fun z => hn1 ⟨by omega, s11⟩)]; rfl) hCz (Fr.trans Fr.refl hFz))
      · rw [e2]
        obtain ⟨hcv1, hki1, hok1, hF1, hK1, hL1, hi1, ha1⟩ := id hcx1
        show EX G mX9_late d 0 0 _ _ _ [vA c1] _ _ _
        refine x_astore_n (L' := [(2, vA c1), (0, vA x), (1, vI t)]) dX9_late_29 rfl (Nat.le_of_ble_eq_true rfl) rfl ?_
        refine x_aload_n 0 dX9_late_30 rfl rfl ?_
        refine x_ifnonnull (r := some c1) 41 dX9_late_31 (by decide) (fun _ => ?_) (fun z => nomatch z)
        refine x_aload_n 1 dX9_late_41 rfl rfl ?_
        refine x_get 5 dX9_late_42 fl_X9_33 hx rfl ?_
        refine x_aload_n 0 dX9_late_45 rfl rfl ?_
        refine x_iload_n 2 dX9_late_46 rfl rfl ?_
        refine x_callV [vA c1, vI t] dX9_late_47 kv_X9_189 rfl rfl hrr (by omega) (Nat.le_of_ble_eq_true rfl) (by omega) (by omega) (k_X6_lateness (d := 3) (by omega) ⟨hrr, hcr⟩ ⟨s9, hcm⟩ hcv1 hok1 (t := t) (by omega) (by have := s9.2.1; omega)) (after_ret ?_)
        refine x_nmI (fun x1 e_x1 => ?_)
        refine x_istore_n (L' := [(3, vI x1), (2, vA c1), (0, vA x), (1, vI t)]) dX9_late_50 rfl (Nat.le_of_ble_eq_true rfl) rfl ?_
        refine x_iload_n 0 dX9_late_51 rfl rfl ?_
        refine x_iconst dX9_late_52 (okI_c rfl) ?_
        refine x_icmp_ne 65 dX9_late_53 (by decide) (fun c_53 => ?_) (fun c_53 => ?_)
        · refine x_aload_n 2 dX9_late_65 rfl rfl ?_
          refine x_iload_n 0 dX9_late_66 rfl rfl ?_
          refine x_callV [vI x1] dX9_late_67 kv_X9_63 rfl rfl hx (by omega) (Nat.le_of_ble_eq_true rfl) (by omega) (by omega) (k_X9_granted (d := 0) (S := S)  (hC)) (fun r1 h1 q1 => ?_)
          obtain ⟨rfl, hCz, hFz⟩ := q1
          exact x_ireturn dX9_late_70 rfl (by omega) (by omega) (outC (by rw [oLate, if_neg (by omega), if_neg (by have := hf1.1; omega), ← hF1, ← e_x1, if_neg c_53]; rfl) hCz (Fr.trans Fr.refl hFz))
        · refine x_aload_n 2 dX9_late_56 rfl rfl ?_
          refine x_bipush dX9_late_57 (okI_c rfl) (by decide +kernel) ?_
          refine x_callV [vI ((-5))] dX9_late_59 kv_X9_59 rfl rfl hx (by omega) (Nat.le_of_ble_eq_true rfl) (by omega) (by omega) (k_X9_refused (d := 0) (S := S)  (hC)) (fun r1 h1 q1 => ?_)
          obtain ⟨rfl, hCz, hFz⟩ := q1
          refine x_goto 70 dX9_late_62 (by decide) ?_
          exact x_ireturn dX9_late_70 rfl (by omega) (by omega) (outC (by rw [oLate, if_neg (by omega), if_neg (by have := hf1.1; omega), ← hF1, ← e_x1, if_pos c_53]; rfl) hCz (Fr.trans Fr.refl hFz))
    · refine x_aload_n 0 dX9_late_15 rfl rfl ?_
      refine x_iconst dX9_late_16 (okI_c rfl) ?_
      refine x_callV [vI ((-1))] dX9_late_17 kv_X9_59 rfl rfl hx (by omega) (Nat.le_of_ble_eq_true rfl) (by omega) (by omega) (k_X9_refused (d := 0) (S := S)  (hC)) (fun r1 h1 q1 => ?_)
      obtain ⟨rfl, hCz, hFz⟩ := q1
      exact x_ireturn dX9_late_20 rfl (by omega) (by omega) (outC (by rw [oLate, if_pos (by omega)]; rfl) hCz (Fr.trans Fr.refl hFz))
set_option maxRecDepth 100000 in
set_option maxHeartbeats 4000000 in
theorem k_X9_mostHeld {G : aG} {d : Nat} (hd : 5 ≤ d) {x ac ar rr cr ta tm mk md on ot lo hi : Nat} {S : aS} {nc : Nat} {h : aH} (hC : CRel x ac ar rr cr ta tm mk md on ot lo hi S h) (hS : SOk nc S)  : MC G mX9_mostHeld d 0 0 [vA x] h (COut x ac ar rr cr ta tm mk md on ot lo hi h vJ (oMostHeld S)) := by
  obtain ⟨⟨o1, o2, o3, o4, o5, o6, o7, o8, o9, oA, oB, oC, oD⟩, hx, ⟨fc, hac, hcs⟩, ⟨fr, har, hrw⟩, ⟨cm, hrr, hcr, hcm⟩, ⟨gt, hta, htm, htl⟩, hmk, ⟨gm, hmd⟩, ⟨g1, hon⟩, ⟨g2, hot⟩⟩ := id hC
  obtain ⟨⟨s1, s2⟩, s3, ⟨s4, s5⟩, ⟨s6, s7, s8⟩, s9, ⟨s10, s11⟩, s12⟩ := id hS
  refine MC.of (by decide) (Nat.le_of_ble_eq_true rfl) (fun ok okh => ?_)
  show EX G mX9_mostHeld d 0 0 _ 0 [(0, vA x)] [] h 0 0
  refine x_aload_n 0 dX9_mostHeld_0 rfl rfl ?_
  refine x_aload_n 0 dX9_mostHeld_1 rfl rfl ?_
  refine x_get 6 dX9_mostHeld_2 fl_X9_37 hx rfl ?_
  refine x_callV [vI ((sSv S))] dX9_mostHeld_5 kv_X9_90 rfl rfl hx (by omega) (Nat.le_of_ble_eq_true rfl) (by omega) (by omega) (k_X9_curveNumbered (d := 0) hC hS (f := (sSv S))) (fun r1 h1 q1 => ?_)
  rcases q1 with ⟨e2, hn1, rfl⟩ | ⟨e2, hf1, c1, ci1, a1, am1, ld1, rfl, hcx1⟩
  · rw [e2]
    show EX G mX9_mostHeld d 0 0 _ _ _ [vN] _ _ _
    refine x_astorer_n (L' := [(1, vN), (0, vA x)]) dX9_mostHeld_8 rfl (Nat.le_of_ble_eq_true rfl) rfl ?_
    refine x_aloadr_n 0 dX9_mostHeld_9 rfl rfl ?_
    refine x_ifnonnull (r := none) 20 dX9_mostHeld_10 (by decide) (fun z => nomatch z) (fun _ => ?_)
    refine x_aload_n 1 dX9_mostHeld_13 rfl rfl ?_
    refine x_bipush dX9_mostHeld_14 (okI_c rfl) (by decide +kernel) ?_
    refine x_callV [vI ((-2))] dX9_mostHeld_16 kv_X9_114 rfl rfl hx (by omega) (Nat.le_of_ble_eq_true rfl) (by omega) (by omega) (k_X9_refusedAmount (d := 0) (S := S)  (hC)) (fun r1 h1 q1 => ?_)
    obtain ⟨rfl, hCz, hFz⟩ := q1
    exact x_lreturn dX9_mostHeld_19 rfl (by omega) (by omega) (outC (by rw [oMostHeld, if_pos (by refine Classical.byContradiction fun z => hn1 ⟨by omega, s11⟩)]; rfl) hCz (Fr.trans Fr.refl hFz))
  · rw [e2]
    obtain ⟨hcv1, hki1, hok1, hF1, hK1, hL1, hi1, ha1⟩ := id hcx1
    show EX G mX9_mostHeld d 0 0 _ _ _ [vA c1] _ _ _
    refine x_astore_n (L' := [(1, vA c1), (0, vA x)]) dX9_mostHeld_8 rfl (Nat.le_of_ble_eq_true rfl) rfl ?_
    refine x_aload_n 0 dX9_mostHeld_9 rfl rfl ?_
    refine x_ifnonnull (r := some c1) 20 dX9_mostHeld_10 (by decide) (fun _ => ?_) (fun z => nomatch z)
    refine x_aload_n 1 dX9_mostHeld_20 rfl rfl ?_
    refine x_aload_n 1 dX9_mostHeld_21 rfl rfl ?_
    refine x_get 5 dX9_mostHeld_22 fl_X9_33 hx rfl ?_
    refine x_aload_n 0 dX9_mostHeld_25 rfl rfl ?_
    refine x_callV [vA c1] dX9_mostHeld_26 kv_X9_193 rfl rfl hrr (by omega) (Nat.le_of_ble_eq_true rfl) (by omega) (by omega) (k_X6_greatestHeld (d := 4) (by omega) ⟨hrr, hcr⟩ ⟨s9, hcm⟩ hcv1 hok1) (after_ret ?_)
    refine x_callV [vJ ((sup0 (fun t => arrS (sSn S) (sSm S) t - servS (sSn S) (sSm S) (cval (sT S (sSv S)) (sD S (sSv S)) (sC S (sSv S)) am1) t) (sSn S + 1).toNat))] dX9_mostHeld_29 kv_X9_122 rfl rfl hx (by omega) (Nat.le_of_ble_eq_true rfl) (by omega) (by omega) (k_X9_grantedAmount (d := 0) (S := S)  (hC)) (fun r1 h1 q1 => ?_)
    obtain ⟨rfl, hCz, hFz⟩ := q1
    exact x_lreturn dX9_mostHeld_32 rfl (by omega) (by omega) (outC (by rw [oMostHeld, if_neg (by have := hf1.1; omega), ← hF1]; rfl) hCz (Fr.trans Fr.refl hFz))
set_option maxRecDepth 100000 in
set_option maxHeartbeats 4000000 in
theorem k_X9_mostLate {G : aG} {d : Nat} (hd : 5 ≤ d) {x ac ar rr cr ta tm mk md on ot lo hi : Nat} {S : aS} {nc : Nat} {h : aH} (hC : CRel x ac ar rr cr ta tm mk md on ot lo hi S h) (hS : SOk nc S)  : MC G mX9_mostLate d 0 0 [vA x] h (COut x ac ar rr cr ta tm mk md on ot lo hi h vI (oMostLate S)) := by
  obtain ⟨⟨o1, o2, o3, o4, o5, o6, o7, o8, o9, oA, oB, oC, oD⟩, hx, ⟨fc, hac, hcs⟩, ⟨fr, har, hrw⟩, ⟨cm, hrr, hcr, hcm⟩, ⟨gt, hta, htm, htl⟩, hmk, ⟨gm, hmd⟩, ⟨g1, hon⟩, ⟨g2, hot⟩⟩ := id hC
  obtain ⟨⟨s1, s2⟩, s3, ⟨s4, s5⟩, ⟨s6, s7, s8⟩, s9, ⟨s10, s11⟩, s12⟩ := id hS
  refine MC.of (by decide) (Nat.le_of_ble_eq_true rfl) (fun ok okh => ?_)
  show EX G mX9_mostLate d 0 0 _ 0 [(0, vA x)] [] h 0 0
  refine x_aload_n 0 dX9_mostLate_0 rfl rfl ?_
  refine x_aload_n 0 dX9_mostLate_1 rfl rfl ?_
  refine x_get 6 dX9_mostLate_2 fl_X9_37 hx rfl ?_
  refine x_callV [vI ((sSv S))] dX9_mostLate_5 kv_X9_90 rfl rfl hx (by omega) (Nat.le_of_ble_eq_true rfl) (by omega) (by omega) (k_X9_curveNumbered (d := 0) hC hS (f := (sSv S))) (fun r1 h1 q1 => ?_)
  rcases q1 with ⟨e2, hn1, rfl⟩ | ⟨e2, hf1, c1, ci1, a1, am1, ld1, rfl, hcx1⟩
  · rw [e2]
    show EX G mX9_mostLate d 0 0 _ _ _ [vN] _ _ _
    refine x_astorer_n (L' := [(1, vN), (0, vA x)]) dX9_mostLate_8 rfl (Nat.le_of_ble_eq_true rfl) rfl ?_
    refine x_aloadr_n 0 dX9_mostLate_9 rfl rfl ?_
    refine x_ifnonnull (r := none) 20 dX9_mostLate_10 (by decide) (fun z => nomatch z) (fun _ => ?_)
    refine x_aload_n 1 dX9_mostLate_13 rfl rfl ?_
    refine x_bipush dX9_mostLate_14 (okI_c rfl) (by decide +kernel) ?_
    refine x_callV [vI ((-2))] dX9_mostLate_16 kv_X9_59 rfl rfl hx (by omega) (Nat.le_of_ble_eq_true rfl) (by omega) (by omega) (k_X9_refused (d := 0) (S := S)  (hC)) (fun r1 h1 q1 => ?_)
    obtain ⟨rfl, hCz, hFz⟩ := q1
    exact x_ireturn dX9_mostLate_19 rfl (by omega) (by omega) (outC (by rw [oMostLate, if_pos (by refine Classical.byContradiction fun z => hn1 ⟨by omega, s11⟩)]; rfl) hCz (Fr.trans Fr.refl hFz))
  · rw [e2]
    obtain ⟨hcv1, hki1, hok1, hF1, hK1, hL1, hi1, ha1⟩ := id hcx1
    show EX G mX9_mostLate d 0 0 _ _ _ [vA c1] _ _ _
    refine x_astore_n (L' := [(1, vA c1), (0, vA x)]) dX9_mostLate_8 rfl (Nat.le_of_ble_eq_true rfl) rfl ?_
    refine x_aload_n 0 dX9_mostLate_9 rfl rfl ?_
    refine x_ifnonnull (r := some c1) 20 dX9_mostLate_10 (by decide) (fun _ => ?_) (fun z => nomatch z)
    refine x_aload_n 1 dX9_mostLate_20 rfl rfl ?_
    refine x_get 5 dX9_mostLate_21 fl_X9_33 hx rfl ?_
    refine x_aload_n 0 dX9_mostLate_24 rfl rfl ?_
    refine x_callV [vA c1] dX9_mostLate_25 kv_X9_197 rfl rfl hrr (by omega) (Nat.le_of_ble_eq_true rfl) (by omega) (by omega) (k_X6_greatestLateness (d := 4) (by omega) ⟨hrr, hcr⟩ ⟨s9, hcm⟩ hcv1 hok1) (after_ret ?_)
    refine x_nmI (fun x1 e_x1 => ?_)
    refine x_istore_n (L' := [(2, vI x1), (1, vA c1), (0, vA x)]) dX9_mostLate_28 rfl (Nat.le_of_ble_eq_true rfl) rfl ?_
    refine x_iload_n 0 dX9_mostLate_29 rfl rfl ?_
    refine x_iconst dX9_mostLate_30 (okI_c rfl) ?_
    refine x_icmp_ne 43 dX9_mostLate_31 (by decide) (fun c_31 => ?_) (fun c_31 => ?_)
    · refine x_aload_n 2 dX9_mostLate_43 rfl rfl ?_
      refine x_iload_n 0 dX9_mostLate_44 rfl rfl ?_
      refine x_callV [vI x1] dX9_mostLate_45 kv_X9_63 rfl rfl hx (by omega) (Nat.le_of_ble_eq_true rfl) (by omega) (by omega) (k_X9_granted (d := 0) (S := S)  (hC)) (fun r1 h1 q1 => ?_)
      obtain ⟨rfl, hCz, hFz⟩ := q1
      exact x_ireturn dX9_mostLate_48 rfl (by omega) (by omega) (outC (by rw [oMostLate, if_neg (by have := hf1.1; omega), ← hF1, ← e_x1, if_neg c_31]; rfl) hCz (Fr.trans Fr.refl hFz))
    · refine x_aload_n 2 dX9_mostLate_34 rfl rfl ?_
      refine x_bipush dX9_mostLate_35 (okI_c rfl) (by decide +kernel) ?_
      refine x_callV [vI ((-5))] dX9_mostLate_37 kv_X9_59 rfl rfl hx (by omega) (Nat.le_of_ble_eq_true rfl) (by omega) (by omega) (k_X9_refused (d := 0) (S := S)  (hC)) (fun r1 h1 q1 => ?_)
      obtain ⟨rfl, hCz, hFz⟩ := q1
      refine x_goto 48 dX9_mostLate_40 (by decide) ?_
      exact x_ireturn dX9_mostLate_48 rfl (by omega) (by omega) (outC (by rw [oMostLate, if_neg (by have := hf1.1; omega), ← hF1, ← e_x1, if_pos c_31]; rfl) hCz (Fr.trans Fr.refl hFz))
set_option maxRecDepth 100000 in
set_option maxHeartbeats 4000000 in
theorem k_X9_keeps {G : aG} {d : Nat} (hd : 5 ≤ d) {x ac ar rr cr ta tm mk md on ot lo hi : Nat} {S : aS} {nc : Nat} {h : aH} (hC : CRel x ac ar rr cr ta tm mk md on ot lo hi S h) (hS : SOk nc S) {f : Int} : MC G mX9_keeps d 0 0 [vA x, vI f] h (COut x ac ar rr cr ta tm mk md on ot lo hi h vI (oKeeps f S)) := by
  obtain ⟨⟨o1, o2, o3, o4, o5, o6, o7, o8, o9, oA, oB, oC, oD⟩, hx, ⟨fc, hac, hcs⟩, ⟨fr, har, hrw⟩, ⟨cm, hrr, hcr, hcm⟩, ⟨gt, hta, htm, htl⟩, hmk, ⟨gm, hmd⟩, ⟨g1, hon⟩, ⟨g2, hot⟩⟩ := id hC
  obtain ⟨⟨s1, s2⟩, s3, ⟨s4, s5⟩, ⟨s6, s7, s8⟩, s9, ⟨s10, s11⟩, s12⟩ := id hS
  refine MC.of (by decide) (Nat.le_of_ble_eq_true rfl) (fun ok okh => ?_)
  show EX G mX9_keeps d 0 0 _ 0 [(0, vA x), (1, vI f)] [] h 0 0
  refine x_aload_n 0 dX9_keeps_0 rfl rfl ?_
  refine x_iload_n 1 dX9_keeps_1 rfl rfl ?_
  refine x_callV [vI f] dX9_keeps_2 kv_X9_90 rfl rfl hx (by omega) (Nat.le_of_ble_eq_true rfl) (by omega) (by omega) (k_X9_curveNumbered (d := 0) hC hS (f := f)) (fun r1 h1 q1 => ?_)
  rcases q1 with ⟨e2, hn1, rfl⟩ | ⟨e2, hf1, c1, ci1, a1, am1, ld1, rfl, hcx1⟩
  · rw [e2]
    show EX G mX9_keeps d 0 0 _ _ _ [vN] _ _ _
    refine x_astorer_n (L' := [(2, vN), (0, vA x), (1, vI f)]) dX9_keeps_5 rfl (Nat.le_of_ble_eq_true rfl) rfl ?_
    refine x_aloadr_n 0 dX9_keeps_6 rfl rfl ?_
    refine x_ifnonnull (r := none) 16 dX9_keeps_7 (by decide) (fun z => nomatch z) (fun _ => ?_)
    refine x_aload_n 1 dX9_keeps_10 rfl rfl ?_
    refine x_iconst dX9_keeps_11 (okI_c rfl) ?_
    refine x_callV [vI ((-1))] dX9_keeps_12 kv_X9_59 rfl rfl hx (by omega) (Nat.le_of_ble_eq_true rfl) (by omega) (by omega) (k_X9_refused (d := 0) (S := S)  (hC)) (fun r1 h1 q1 => ?_)
    obtain ⟨rfl, hCz, hFz⟩ := q1
    exact x_ireturn dX9_keeps_15 rfl (by omega) (by omega) (outC (by rw [oKeeps, cond_t hn1]; rfl) hCz (Fr.trans Fr.refl hFz))
  · rw [e2]
    obtain ⟨hcv1, hki1, hok1, hF1, hK1, hL1, hi1, ha1⟩ := id hcx1
    show EX G mX9_keeps d 0 0 _ _ _ [vA c1] _ _ _
    refine x_astore_n (L' := [(2, vA c1), (0, vA x), (1, vI f)]) dX9_keeps_5 rfl (Nat.le_of_ble_eq_true rfl) rfl ?_
    refine x_aload_n 0 dX9_keeps_6 rfl rfl ?_
    refine x_ifnonnull (r := some c1) 16 dX9_keeps_7 (by decide) (fun _ => ?_) (fun z => nomatch z)
    refine x_aload_n 1 dX9_keeps_16 rfl rfl ?_
    refine x_aload_n 1 dX9_keeps_17 rfl rfl ?_
    refine x_get 5 dX9_keeps_18 fl_X9_33 hx rfl ?_
    refine x_aload_n 0 dX9_keeps_21 rfl rfl ?_
    refine x_callV [vA c1] dX9_keeps_22 kv_X9_200 rfl rfl hrr (by omega) (Nat.le_of_ble_eq_true rfl) (by omega) (by omega) (k_X6_staysWithin (d := 2) (by omega) ⟨hrr, hcr⟩ ⟨s9, hcm⟩ hcv1 hok1) (after_ret ?_)
    refine x_if_eq 32 dX9_keeps_25 (by decide) (fun c_25 => ?_) (fun c_25 => ?_)
    · refine x_iconst dX9_keeps_32 (okI_c rfl) ?_
      refine x_callV [vI 0] dX9_keeps_33 kv_X9_63 rfl rfl hx (by omega) (Nat.le_of_ble_eq_true rfl) (by omega) (by omega) (k_X9_granted (d := 0) (S := S)  (hC)) (fun r1 h1 q1 => ?_)
      obtain ⟨rfl, hCz, hFz⟩ := q1
      exact x_ireturn dX9_keeps_36 rfl (by omega) (by omega) (outC (by rw [oKeeps, cond_f (fun z => z hf1), ← hF1]; exact congrArg (fun z : Int => (z, sLa 0 S)) (b2i_f (b2i_eq c_25))) hCz (Fr.trans Fr.refl hFz))
    · refine x_iconst dX9_keeps_28 (okI_c rfl) ?_
      refine x_goto 33 dX9_keeps_29 (by decide) ?_
      refine x_callV [vI 1] dX9_keeps_33 kv_X9_63 rfl rfl hx (by omega) (Nat.le_of_ble_eq_true rfl) (by omega) (by omega) (k_X9_granted (d := 0) (S := S)  (hC)) (fun r1 h1 q1 => ?_)
      obtain ⟨rfl, hCz, hFz⟩ := q1
      exact x_ireturn dX9_keeps_36 rfl (by omega) (by omega) (outC (by rw [oKeeps, cond_f (fun z => z hf1), ← hF1]; exact congrArg (fun z : Int => (z, sLa 0 S)) (b2i_t (b2i_ne c_25))) hCz (Fr.trans Fr.refl hFz))
set_option maxRecDepth 100000 in
set_option maxHeartbeats 4000000 in
theorem k_X9_serve {G : aG} {d : Nat} (hd : 5 ≤ d) {x ac ar rr cr ta tm mk md on ot lo hi : Nat} {S : aS} {nc : Nat} {h : aH} (hC : CRel x ac ar rr cr ta tm mk md on ot lo hi S h) (hS : SOk nc S) {g : Int} : MC G mX9_serve d 0 0 [vA x, vI g] h (COut x ac ar rr cr ta tm mk md on ot lo hi h vI (oServe g S)) := by
  obtain ⟨⟨o1, o2, o3, o4, o5, o6, o7, o8, o9, oA, oB, oC, oD⟩, hx, ⟨fc, hac, hcs⟩, ⟨fr, har, hrw⟩, ⟨cm, hrr, hcr, hcm⟩, ⟨gt, hta, htm, htl⟩, hmk, ⟨gm, hmd⟩, ⟨g1, hon⟩, ⟨g2, hot⟩⟩ := id hC
  obtain ⟨⟨s1, s2⟩, s3, ⟨s4, s5⟩, ⟨s6, s7, s8⟩, s9, ⟨s10, s11⟩, s12⟩ := id hS
  refine MC.of (by decide) (Nat.le_of_ble_eq_true rfl) (fun ok okh => ?_)
  show EX G mX9_serve d 0 0 _ 0 [(0, vA x), (1, vI g)] [] h 0 0
  refine x_aload_n 0 dX9_serve_0 rfl rfl ?_
  refine x_iload_n 1 dX9_serve_1 rfl rfl ?_
  refine x_callV [vI g] dX9_serve_2 kv_X9_90 rfl rfl hx (by omega) (Nat.le_of_ble_eq_true rfl) (by omega) (by omega) (k_X9_curveNumbered (d := 0) hC hS (f := g)) (fun r1 h1 q1 => ?_)
  rcases q1 with ⟨e2, hn1, rfl⟩ | ⟨e2, hf1, c1, ci1, a1, am1, ld1, rfl, hcx1⟩
  · rw [e2]
    show EX G mX9_serve d 0 0 _ _ _ [vN] _ _ _
    refine x_ifnonnull (r := none) 14 dX9_serve_5 (by decide) (fun z => nomatch z) (fun _ => ?_)
    refine x_aload_n 0 dX9_serve_8 rfl rfl ?_
    refine x_iconst dX9_serve_9 (okI_c rfl) ?_
    refine x_callV [vI ((-1))] dX9_serve_10 kv_X9_59 rfl rfl hx (by omega) (Nat.le_of_ble_eq_true rfl) (by omega) (by omega) (k_X9_refused (d := 0) (S := S)  (hC)) (fun r1 h1 q1 => ?_)
    obtain ⟨rfl, hCz, hFz⟩ := q1
    exact x_ireturn dX9_serve_13 rfl (by omega) (by omega) (outC (by rw [oServe, cond_t hn1]; rfl) hCz (Fr.trans Fr.refl hFz))
  · rw [e2]
    obtain ⟨hcv1, hki1, hok1, hF1, hK1, hL1, hi1, ha1⟩ := id hcx1
    show EX G mX9_serve d 0 0 _ _ _ [vA c1] _ _ _
    refine x_ifnonnull (r := some c1) 14 dX9_serve_5 (by decide) (fun _ => ?_) (fun z => nomatch z)
    refine x_aload_n 0 dX9_serve_14 rfl rfl ?_
    refine x_iload_n 1 dX9_serve_15 rfl rfl ?_
    refine x_put 6 dX9_serve_16 pu_X9_37 hx rfl rfl (Nat.le_of_ble_eq_true rfl) ?_
    refine x_aload_n 0 dX9_serve_19 rfl rfl ?_
    refine x_iconst dX9_serve_20 (okI_c rfl) ?_
    refine x_callV [vI 1] dX9_serve_21 kv_X9_63 rfl rfl (hset_eq _ _ _) (by omega) (Nat.le_of_ble_eq_true rfl) (by omega) (by omega) (k_X9_granted (d := 0) (S := sSrv g S) (h := (hset h x (eO 8 [vA ac, vI ((sCu S)), vI ((sMu S)), vA ar, vI ((sRn S)), vA rr, vI g, vA ta, vA mk, vI ((sLt S))]))) (⟨⟨o1, o2, o3, o4, o5, o6, o7, o8, o9, oA, oB, oC, (by rw [hset_ne _ _ (show hi - 1 ≠ x by omega)]; exact oD)⟩, (hset_eq _ _ _), ⟨fc, ((hset_ne _ _ (by omega)).trans hac), (fun i q1 q2 => (hcs i q1 q2).keep (by omega))⟩, ⟨fr, ((hset_ne _ _ (by omega)).trans har), hrw⟩, ⟨cm, ((hset_ne _ _ (by omega)).trans hrr), ((hset_ne _ _ (by omega)).trans hcr), hcm⟩, ⟨gt, ((hset_ne _ _ (by omega)).trans hta), ((hset_ne _ _ (by omega)).trans htm), htl⟩, ((hset_ne _ _ (by omega)).trans hmk), ⟨_, ((hset_ne _ _ (by omega)).trans hmd)⟩, ⟨_, ((hset_ne _ _ (by omega)).trans hon)⟩, ⟨_, ((hset_ne _ _ (by omega)).trans hot)⟩⟩)) (fun r1 h1 q1 => ?_)
    obtain ⟨rfl, hCz, hFz⟩ := q1
    exact x_ireturn dX9_serve_24 rfl (by omega) (by omega) (outC (by rw [oServe, cond_f (fun z => z hf1)]; rfl) hCz (Fr.trans (Fr.set Fr.refl (by omega)) hFz))
theorem psum_up {sm : Nat → Int} {n : Nat} {v : Int} : ∀ k : Nat, k ≤ n → psum (va_up sm n v) k = psum sm k
  | 0, _ => rfl
  | k + 1, h => by
    show psum (va_up sm n v) k + va_up sm n v k = psum sm k + sm k
    rw [psum_up k (by omega), va_up_ne _ _ (by omega)]
set_option maxRecDepth 100000 in
set_option maxHeartbeats 4000000 in
theorem k_X9_come {G : aG} {d : Nat} (hd : 5 ≤ d) {x ac ar rr cr ta tm mk md on ot lo hi : Nat} {S : aS} {nc : Nat} {h : aH} (hC : CRel x ac ar rr cr ta tm mk md on ot lo hi S h) (hS : SOk nc S) {a : Int} : MC G mX9_come d 0 0 [vA x, vI a] h (COut x ac ar rr cr ta tm mk md on ot lo hi h vI (oCome a S)) := by
  obtain ⟨⟨o1, o2, o3, o4, o5, o6, o7, o8, o9, oA, oB, oC, oD⟩, hx, ⟨fc, hac, hcs⟩, ⟨fr, har, hrw⟩, ⟨cm, hrr, hcr, hcm⟩, ⟨gt, hta, htm, htl⟩, hmk, ⟨gm, hmd⟩, ⟨g1, hon⟩, ⟨g2, hot⟩⟩ := id hC
  obtain ⟨⟨s1, s2⟩, s3, ⟨s4, s5⟩, ⟨s6, s7, s8⟩, s9, ⟨s10, s11⟩, s12⟩ := id hS
  refine MC.of (by decide) (Nat.le_of_ble_eq_true rfl) (fun ok okh => ?_)
  show EX G mX9_come d 0 0 _ 0 [(0, vA x), (1, vI a)] [] h 0 0
  refine x_iload_n 1 dX9_come_0 rfl rfl ?_
  refine x_if_lt 10 dX9_come_1 (by decide) (fun c_1 => ?_) (fun c_1 => ?_)
  · refine x_aload_n 0 dX9_come_10 rfl rfl ?_
    refine x_iconst dX9_come_11 (okI_c rfl) ?_
    refine x_callV [vI ((-1))] dX9_come_12 kv_X9_59 rfl rfl hx (by omega) (Nat.le_of_ble_eq_true rfl) (by omega) (by omega) (k_X9_refused (d := 0) (S := S)  (hC)) (fun r1 h1 q1 => ?_)
    obtain ⟨rfl, hCz, hFz⟩ := q1
    exact x_ireturn dX9_come_15 rfl (by omega) (by omega) (outC (by rw [oCome, if_pos (by omega)]; rfl) hCz (Fr.trans Fr.refl hFz))
  · refine x_iload_n 1 dX9_come_4 rfl rfl ?_
    refine x_ldc (n := 1000000000) dX9_come_5 (okI_c rfl) kc_X9_73 ?_
    refine x_icmp_le 16 dX9_come_7 (by decide) (fun c_7 => ?_) (fun c_7 => ?_)
    · refine x_aload_n 0 dX9_come_16 rfl rfl ?_
      refine x_get 5 dX9_come_17 fl_X9_33 hx rfl ?_
      refine x_callV [] dX9_come_20 kv_X9_161 rfl rfl hrr (by omega) (Nat.le_of_ble_eq_true rfl) (by omega) (by omega) (k_X6_isFull (d := 0) ⟨hrr, hcr⟩ s9.1 s9.2.1) (after_ret ?_)
      refine x_if_eq 33 dX9_come_23 (by decide) (fun c_23 => ?_) (fun c_23 => ?_)
      · refine x_aload_n 0 dX9_come_33 rfl rfl ?_
        refine x_get 5 dX9_come_34 fl_X9_33 hx rfl ?_
        refine x_iload_n 1 dX9_come_37 rfl rfl ?_
        refine x_i2l dX9_come_38 ?_
        refine x_callV [vJ a] dX9_come_39 kv_X9_164 rfl rfl hrr (by omega) (Nat.le_of_ble_eq_true rfl) (by omega) (by omega) (k_X6_add (d := 1) (by omega) ⟨hrr, hcr⟩ ⟨s9, hcm⟩ (x := a) (by omega) (by omega) (by have := b2i_eq c_23; have := s9.2.1; omega)) (after_void ?_)
        refine x_aload_n 0 dX9_come_42 rfl rfl ?_
        refine x_aload_n 0 dX9_come_43 rfl rfl ?_
        refine x_get 5 dX9_come_44 fl_X9_33 ((hset_ne _ _ (by omega)).trans ((hset_ne _ _ (by omega)).trans hx)) rfl ?_
        refine x_getN 1 dX9_come_47 fl_X9_168 (hset_eq _ _ _) rfl ?_
        refine x_callV [vI (((sSn S) + 1))] dX9_come_50 kv_X9_63 rfl rfl ((hset_ne _ _ (by omega)).trans ((hset_ne _ _ (by omega)).trans hx)) (by omega) (Nat.le_of_ble_eq_true rfl) (by omega) (by omega) (k_X9_granted (d := 0) (S := sRun (sSn S + 1) (va_up (sSm S) (sSn S).toNat a) S) (h := (hset (hset h cr (eJ 61 (va_up cm ((sSn S) + 1).toNat (cm (sSn S).toNat + a)))) rr (eO 5 [vA cr, vI (((sSn S) + 1))]))) (⟨⟨o1, o2, o3, o4, o5, o6, o7, o8, o9, oA, oB, oC, (by rw [hset_ne _ _ (show hi - 1 ≠ rr by omega), hset_ne _ _ (show hi - 1 ≠ cr by omega)]; exact oD)⟩, ((hset_ne _ _ (by omega)).trans ((hset_ne _ _ (by omega)).trans hx)), ⟨fc, ((hset_ne _ _ (by omega)).trans ((hset_ne _ _ (by omega)).trans hac)), (fun i q1 q2 => ((hcs i q1 q2).keep (by omega)).keep (by omega))⟩, ⟨fr, ((hset_ne _ _ (by omega)).trans ((hset_ne _ _ (by omega)).trans har)), hrw⟩, ⟨(va_up cm ((sSn S) + 1).toNat (cm (sSn S).toNat + a)), (hset_eq _ _ _), ((hset_ne _ _ (by omega)).trans (hset_eq _ _ _)), (fun k q1 q2 => by
                have q3 : k ≤ sSn S + 1 := q2
                by_cases q : k = sSn S + 1
                · subst q
                  show va_up cm (sSn S + 1).toNat _ _ = psum (va_up (sSm S) (sSn S).toNat a) _
                  rw [va_up_self, psum_s s9.1, psum_up _ (Nat.le_refl _), va_up_self, hcm _ s9.1 (Int.le_refl _)]
                · show va_up cm (sSn S + 1).toNat _ _ = psum (va_up (sSm S) (sSn S).toNat a) _
                  rw [va_up_ne _ _ (by have := s9.1; omega), psum_up _ (by omega), hcm k q1 (by omega)])⟩, ⟨gt, ((hset_ne _ _ (by omega)).trans ((hset_ne _ _ (by omega)).trans hta)), ((hset_ne _ _ (by omega)).trans ((hset_ne _ _ (by omega)).trans htm)), htl⟩, ((hset_ne _ _ (by omega)).trans ((hset_ne _ _ (by omega)).trans hmk)), ⟨_, ((hset_ne _ _ (by omega)).trans ((hset_ne _ _ (by omega)).trans hmd))⟩, ⟨_, ((hset_ne _ _ (by omega)).trans ((hset_ne _ _ (by omega)).trans hon))⟩, ⟨_, ((hset_ne _ _ (by omega)).trans ((hset_ne _ _ (by omega)).trans hot))⟩⟩)) (fun r1 h1 q1 => ?_)
        obtain ⟨rfl, hCz, hFz⟩ := q1
        exact x_ireturn dX9_come_53 rfl (by omega) (by omega) (outC (by rw [oCome, if_neg (by omega), if_neg (by have := b2i_eq c_23; have := s9.2.1; omega)]; rfl) hCz (Fr.trans (Fr.set (Fr.set Fr.refl (by omega)) (by omega)) hFz))
      · refine x_aload_n 0 dX9_come_26 rfl rfl ?_
        refine x_bipush dX9_come_27 (okI_c rfl) (by decide +kernel) ?_
        refine x_callV [vI ((-3))] dX9_come_29 kv_X9_59 rfl rfl hx (by omega) (Nat.le_of_ble_eq_true rfl) (by omega) (by omega) (k_X9_refused (d := 0) (S := S)  (hC)) (fun r1 h1 q1 => ?_)
        obtain ⟨rfl, hCz, hFz⟩ := q1
        exact x_ireturn dX9_come_32 rfl (by omega) (by omega) (outC (by rw [oCome, if_neg (by omega), if_pos (by have := b2i_ne c_23; omega)]; rfl) hCz (Fr.trans Fr.refl hFz))
    · refine x_aload_n 0 dX9_come_10 rfl rfl ?_
      refine x_iconst dX9_come_11 (okI_c rfl) ?_
      refine x_callV [vI ((-1))] dX9_come_12 kv_X9_59 rfl rfl hx (by omega) (Nat.le_of_ble_eq_true rfl) (by omega) (by omega) (k_X9_refused (d := 0) (S := S)  (hC)) (fun r1 h1 q1 => ?_)
      obtain ⟨rfl, hCz, hFz⟩ := q1
      exact x_ireturn dX9_come_15 rfl (by omega) (by omega) (outC (by rw [oCome, if_pos (by omega)]; rfl) hCz (Fr.trans Fr.refl hFz))
set_option maxRecDepth 100000 in
set_option maxHeartbeats 4000000 in
theorem k_X9_hardest {G : aG} {d : Nat} (hd : 5 ≤ d) {x ac ar rr cr ta tm mk md on ot lo hi : Nat} {S : aS} {nc : Nat} {h : aH} (hC : CRel x ac ar rr cr ta tm mk md on ot lo hi S h) (hS : SOk nc S) {f : Int} {n : Int} : MC G mX9_hardest d 0 0 [vA x, vI f, vI n] h (COut x ac ar rr cr ta tm mk md on ot lo hi h vI (oHardest f n S)) := by
  obtain ⟨⟨o1, o2, o3, o4, o5, o6, o7, o8, o9, oA, oB, oC, oD⟩, hx, ⟨fc, hac, hcs⟩, ⟨fr, har, hrw⟩, ⟨cm, hrr, hcr, hcm⟩, ⟨gt, hta, htm, htl⟩, hmk, ⟨gm, hmd⟩, ⟨g1, hon⟩, ⟨g2, hot⟩⟩ := id hC
  obtain ⟨⟨s1, s2⟩, s3, ⟨s4, s5⟩, ⟨s6, s7, s8⟩, s9, ⟨s10, s11⟩, s12⟩ := id hS
  refine MC.of (by decide) (Nat.le_of_ble_eq_true rfl) (fun ok okh => ?_)
  show EX G mX9_hardest d 0 0 _ 0 [(0, vA x), (1, vI f), (2, vI n)] [] h 0 0
  refine x_aload_n 0 dX9_hardest_0 rfl rfl ?_
  refine x_iload_n 1 dX9_hardest_1 rfl rfl ?_
  refine x_callV [vI f] dX9_hardest_2 kv_X9_90 rfl rfl hx (by omega) (Nat.le_of_ble_eq_true rfl) (by omega) (by omega) (k_X9_curveNumbered (d := 0) hC hS (f := f)) (fun r1 h1 q1 => ?_)
  rcases q1 with ⟨e2, hn1, rfl⟩ | ⟨e2, hf1, c1, ci1, a1, am1, ld1, rfl, hcx1⟩
  · rw [e2]
    show EX G mX9_hardest d 0 0 _ _ _ [vN] _ _ _
    refine x_astorer_n (L' := [(3, vN), (0, vA x), (1, vI f), (2, vI n)]) dX9_hardest_5 rfl (Nat.le_of_ble_eq_true rfl) rfl ?_
    refine x_aloadr_n 0 dX9_hardest_6 rfl rfl ?_
    refine x_ifnull (r := none) 28 dX9_hardest_7 (by decide) (fun _ => ?_) (fun z => nomatch z)
    refine x_aload_n 1 dX9_hardest_28 rfl rfl ?_
    refine x_iconst dX9_hardest_29 (okI_c rfl) ?_
    refine x_callV [vI ((-1))] dX9_hardest_30 kv_X9_59 rfl rfl hx (by omega) (Nat.le_of_ble_eq_true rfl) (by omega) (by omega) (k_X9_refused (d := 0) (S := S)  (hC)) (fun r1 h1 q1 => ?_)
    obtain ⟨rfl, hCz, hFz⟩ := q1
    exact x_ireturn dX9_hardest_33 rfl (by omega) (by omega) (outC (by rw [oHardest, cond_t (by first | exact Or.inl hn1 | exact Or.inr (Or.inl (by omega)) | exact Or.inr (Or.inr (fun z => b2i_eq c_25 (fun t q1 q2 => by rw [hF1]; exact z t q1 q2))))]; rfl) hCz (Fr.trans Fr.refl hFz))
  · rw [e2]
    obtain ⟨hcv1, hki1, hok1, hF1, hK1, hL1, hi1, ha1⟩ := id hcx1
    show EX G mX9_hardest d 0 0 _ _ _ [vA c1] _ _ _
    refine x_astore_n (L' := [(3, vA c1), (0, vA x), (1, vI f), (2, vI n)]) dX9_hardest_5 rfl (Nat.le_of_ble_eq_true rfl) rfl ?_
    refine x_aload_n 0 dX9_hardest_6 rfl rfl ?_
    refine x_ifnull (r := some c1) 28 dX9_hardest_7 (by decide) (fun z => nomatch z) (fun _ => ?_)
    refine x_iload_n 3 dX9_hardest_10 rfl rfl ?_
    refine x_if_lt 28 dX9_hardest_11 (by decide) (fun c_11 => ?_) (fun c_11 => ?_)
    · refine x_aload_n 1 dX9_hardest_28 rfl rfl ?_
      refine x_iconst dX9_hardest_29 (okI_c rfl) ?_
      refine x_callV [vI ((-1))] dX9_hardest_30 kv_X9_59 rfl rfl hx (by omega) (Nat.le_of_ble_eq_true rfl) (by omega) (by omega) (k_X9_refused (d := 0) (S := S)  (hC)) (fun r1 h1 q1 => ?_)
      obtain ⟨rfl, hCz, hFz⟩ := q1
      exact x_ireturn dX9_hardest_33 rfl (by omega) (by omega) (outC (by rw [oHardest, cond_t (by first | exact Or.inl hn1 | exact Or.inr (Or.inl (by omega)) | exact Or.inr (Or.inr (fun z => b2i_eq c_25 (fun t q1 q2 => by rw [hF1]; exact z t q1 q2))))]; rfl) hCz (Fr.trans Fr.refl hFz))
    · refine x_iload_n 3 dX9_hardest_14 rfl rfl ?_
      refine x_bipush dX9_hardest_15 (okI_c rfl) (by decide +kernel) ?_
      refine x_icmp_gt 28 dX9_hardest_17 (by decide) (fun c_17 => ?_) (fun c_17 => ?_)
      · refine x_aload_n 1 dX9_hardest_28 rfl rfl ?_
        refine x_iconst dX9_hardest_29 (okI_c rfl) ?_
        refine x_callV [vI ((-1))] dX9_hardest_30 kv_X9_59 rfl rfl hx (by omega) (Nat.le_of_ble_eq_true rfl) (by omega) (by omega) (k_X9_refused (d := 0) (S := S)  (hC)) (fun r1 h1 q1 => ?_)
        obtain ⟨rfl, hCz, hFz⟩ := q1
        exact x_ireturn dX9_hardest_33 rfl (by omega) (by omega) (outC (by rw [oHardest, cond_t (by first | exact Or.inl hn1 | exact Or.inr (Or.inl (by omega)) | exact Or.inr (Or.inr (fun z => b2i_eq c_25 (fun t q1 q2 => by rw [hF1]; exact z t q1 q2))))]; rfl) hCz (Fr.trans Fr.refl hFz))
      · refine x_aload_n 0 dX9_hardest_20 rfl rfl ?_
        refine x_iload_n 3 dX9_hardest_21 rfl rfl ?_
        refine x_callS [vA c1, vI n] dX9_hardest_22 ks_X9_171 rfl rfl (by omega) (Nat.le_of_ble_eq_true rfl) (by omega) (by omega) (k_X6_canFollow (d := 2) (by omega) hcv1 hok1 (n := n) (by omega) (by omega)) (after_ret ?_)
        refine x_if_ne 34 dX9_hardest_25 (by decide) (fun c_25 => ?_) (fun c_25 => ?_)
        · refine x_aload_n 1 dX9_hardest_34 rfl rfl ?_
          refine x_get 5 dX9_hardest_35 fl_X9_33 hx rfl ?_
          refine x_aload_n 0 dX9_hardest_38 rfl rfl ?_
          refine x_iload_n 3 dX9_hardest_39 rfl rfl ?_
          refine x_callV [vA c1, vI n] dX9_hardest_40 kv_X9_175 rfl rfl hrr (by omega) (Nat.le_of_ble_eq_true rfl) (by omega) (by omega) (k_X6_follow (d := 3) (by omega) ⟨hrr, hcr⟩ hcv1 hok1 (by omega) (by omega) (n2 := n) (by omega) (by omega) (by have := hcm 0 (Int.le_refl 0) s9.1; exact this) (b2i_ne c_25)) (fun r1 h1 q1 => ?_)
          obtain ⟨rfl, cm2, rfl, hro2⟩ := q1
          rw [hF1] at hro2
          show EX G mX9_hardest d 0 0 _ _ _ [] _ _ _
          refine x_aload_n 1 dX9_hardest_43 rfl rfl ?_
          refine x_aload_n 1 dX9_hardest_44 rfl rfl ?_
          refine x_get 5 dX9_hardest_45 fl_X9_33 ((hset_ne _ _ (by omega)).trans ((hset_ne _ _ (by omega)).trans hx)) rfl ?_
          refine x_getN 1 dX9_hardest_48 fl_X9_168 (hset_eq _ _ _) rfl ?_
          refine x_callV [vI n] dX9_hardest_51 kv_X9_63 rfl rfl ((hset_ne _ _ (by omega)).trans ((hset_ne _ _ (by omega)).trans hx)) (by omega) (Nat.le_of_ble_eq_true rfl) (by omega) (by omega) (k_X9_granted (d := 0) (S := sRun n (fun k : Nat => hstep (sF S f) (k + 1)) S) (h := (hset (hset h cr (eJ 61 cm2)) rr (eO 5 [vA cr, vI n]))) (⟨⟨o1, o2, o3, o4, o5, o6, o7, o8, o9, oA, oB, oC, (by rw [hset_ne _ _ (show hi - 1 ≠ rr by omega), hset_ne _ _ (show hi - 1 ≠ cr by omega)]; exact oD)⟩, ((hset_ne _ _ (by omega)).trans ((hset_ne _ _ (by omega)).trans hx)), ⟨fc, ((hset_ne _ _ (by omega)).trans ((hset_ne _ _ (by omega)).trans hac)), (fun i q1 q2 => ((hcs i q1 q2).keep (by omega)).keep (by omega))⟩, ⟨fr, ((hset_ne _ _ (by omega)).trans ((hset_ne _ _ (by omega)).trans har)), hrw⟩, ⟨cm2, (hset_eq _ _ _), ((hset_ne _ _ (by omega)).trans (hset_eq _ _ _)), hro2.2⟩, ⟨gt, ((hset_ne _ _ (by omega)).trans ((hset_ne _ _ (by omega)).trans hta)), ((hset_ne _ _ (by omega)).trans ((hset_ne _ _ (by omega)).trans htm)), htl⟩, ((hset_ne _ _ (by omega)).trans ((hset_ne _ _ (by omega)).trans hmk)), ⟨_, ((hset_ne _ _ (by omega)).trans ((hset_ne _ _ (by omega)).trans hmd))⟩, ⟨_, ((hset_ne _ _ (by omega)).trans ((hset_ne _ _ (by omega)).trans hon))⟩, ⟨_, ((hset_ne _ _ (by omega)).trans ((hset_ne _ _ (by omega)).trans hot))⟩⟩)) (fun r1 h1 q1 => ?_)
          obtain ⟨rfl, hCz, hFz⟩ := q1
          exact x_ireturn dX9_hardest_54 rfl (by omega) (by omega) (outC (by rw [oHardest, cond_f (fun z => z.elim (fun y => y hf1) (fun y => y.elim (fun y => by omega) (fun y => y (fun t q1 q2 => by rw [← hF1]; exact b2i_ne c_25 t q1 q2))))]; rfl) hCz (Fr.trans (Fr.set (Fr.set Fr.refl (by omega)) (by omega)) hFz))
        · refine x_aload_n 1 dX9_hardest_28 rfl rfl ?_
          refine x_iconst dX9_hardest_29 (okI_c rfl) ?_
          refine x_callV [vI ((-1))] dX9_hardest_30 kv_X9_59 rfl rfl hx (by omega) (Nat.le_of_ble_eq_true rfl) (by omega) (by omega) (k_X9_refused (d := 0) (S := S)  (hC)) (fun r1 h1 q1 => ?_)
          obtain ⟨rfl, hCz, hFz⟩ := q1
          exact x_ireturn dX9_hardest_33 rfl (by omega) (by omega) (outC (by rw [oHardest, cond_t (by first | exact Or.inl hn1 | exact Or.inr (Or.inl (by omega)) | exact Or.inr (Or.inr (fun z => b2i_eq c_25 (fun t q1 q2 => by rw [hF1]; exact z t q1 q2))))]; rfl) hCz (Fr.trans Fr.refl hFz))
section KC
variable {T D C ld : Int} {am : Nat → Int} {t : Int}
theorem kc_init (ok : CvOk T D C am) (hk : KindOk 0 T D C am ld) (ht : 0 ≤ t) : (if t = 0 then 0 else C * t + ld) = cval T D C am t ∧ 0 ≤ ld ∧ ld ≤ 1000000000000 := by
  obtain ⟨hT0, hT2, hD0, hD6, hC0, hC1, hA, hM, hW⟩ := ok
  obtain ⟨k1, k2⟩ := hk
  have k2 := k2 rfl
  unfold kindS kindN at k1
  rw [if_pos (show (0 : Nat) = 0 from rfl)] at k1
  split at k1
  · rename_i q
    obtain ⟨rfl, rfl, q0, q1⟩ := q
    have := (hA 1 (by omega) (by omega)).2
    rw [show ((1 : Int)).toNat = 1 from rfl] at this
    refine ⟨?_, by omega, by omega⟩
    by_cases z : t = 0
    · subst z; rw [if_pos rfl, cval_lt (by omega)]; exact q0.symm
    · rw [if_neg z]
      by_cases z1 : t = 1
      · subst z1; rw [cval_lt (by omega), show ((1 : Int)).toNat = 1 from rfl]; omega
      · rw [cval, if_neg (by omega), Int.emod_one, Int.ediv_one, show ((1 : Int) + 0).toNat = 1 from rfl, Int.sub_mul, Int.mul_comm t C]; omega
  · split at k1 <;> (try split at k1) <;> (try split at k1) <;> omega
theorem kc_ray (ok : CvOk T D C am) (hk : KindOk 4 T D C am ld) (ht : 0 ≤ t) : C * t = cval T D C am t := by
  obtain ⟨k1, -⟩ := hk
  unfold kindS kindN at k1
  rw [if_neg (show ¬ (4 : Nat) = 0 by omega), if_pos rfl] at k1
  split at k1
  · omega
  · split at k1
    · rename_i q
      obtain ⟨rfl, rfl, q0⟩ := q
      by_cases z : t = 0
      · subst z; rw [cval_lt (by omega), Int.mul_zero]; exact q0.symm
      · rw [cval, if_neg (by omega), Int.emod_one, Int.ediv_one, show ((0 : Int) + 0).toNat = 0 from rfl, q0, Int.sub_zero, Int.mul_comm t C]; omega
    · (try split at k1) <;> (try split at k1) <;> omega
theorem kc_wait (ok : CvOk T D C am) (hk : KindOk 2 T D C am ld) (ht : 0 ≤ t) : (if t ≤ T then 0 else C * (t - T)) = cval T D C am t := by
  have cm := fun h0 => cval_mono ok (s := t) (t := T) h0
  obtain ⟨hT0, hT2, hD0, hD6, hC0, hC1, hA, hM, hW⟩ := ok
  obtain ⟨k1, -⟩ := hk
  unfold kindS kindN at k1
  rw [if_neg (show ¬ (2 : Nat) = 0 by omega), if_neg (show ¬ (2 : Nat) = 4 by omega), if_pos rfl] at k1
  split at k1
  · omega
  · split at k1
    · omega
    · split at k1
      · rename_i q
        obtain ⟨rfl, q1, q2, q0⟩ := q
        by_cases z : t ≤ T
        · rw [if_pos z]
          have h1 : cval T 1 C am t ≤ cval T 1 C am T := cm ht z
          rw [cval_lt (show T < T + 1 by omega), q0] at h1
          rw [cval_lt (by omega)] at h1 ⊢
          have := (hA t ht (by omega)).1
          omega
        · rw [if_neg z, cval, if_neg (by omega), Int.emod_one, Int.ediv_one, Int.add_zero, q0, Int.mul_comm (t - T) C]; omega
      · split at k1 <;> omega
theorem kc_clock (ok : CvOk T D C am) (hk : KindOk 6 T D C am ld) (ht : 0 ≤ t) : C * (t / D) = cval T D C am t := by
  obtain ⟨hT0, hT2, hD0, hD6, hC0, hC1, hA, hM, hW⟩ := id ok
  obtain ⟨k1, -⟩ := hk
  unfold kindS kindN at k1
  rw [if_neg (show ¬ (6 : Nat) = 0 by omega), if_neg (show ¬ (6 : Nat) = 4 by omega), if_neg (show ¬ (6 : Nat) = 2 by omega), if_pos rfl] at k1
  split at k1
  · omega
  · split at k1
    · omega
    · split at k1
      · omega
      · split at k1
        · rename_i q
          obtain ⟨q1, rfl, q2, q0⟩ := q
          have az : ∀ s : Int, 0 ≤ s → s < D → am s.toNat = 0 := fun s h0 h1 => by
            have h2 := cval_mono ok h0 (show s ≤ D - 1 by omega)
            rw [cval_lt (by omega), cval_lt (by omega), q0] at h2
            have := (hA s h0 (by omega)).1
            omega
          by_cases z : t < 0 + D
          · rw [cval_lt z, az t ht (by omega), Int.ediv_eq_zero_of_lt ht (by omega), Int.mul_zero]
          · rw [cval, if_neg z, Int.sub_zero, Int.zero_add, az _ (Int.emod_nonneg _ (by omega)) (Int.emod_lt_of_pos _ (by omega)), Int.mul_comm (t / D) C]; omega
        · omega
end KC
section XA
variable {G : aG} {X : aM} {d mc ms : Nat} {Q : Option aV → aH → Prop} {pc : Nat} {L : List (Nat × aV)} {st : List aV} {h : aH} {kc ks : Nat}
theorem x_asked9 {c ci a tl mk : Nat} {g : Nat → Int} {T D C ld : Int} {am : Nat → Int} {t : Int} (hd : decode X.2.1 pc = .ok (.invokevirtual 118, 3)) (hX : X.1.cls = RX9) (hcv : CvAt h c ci a T D C am ld) (hok : CvOk T D C am) (hk : KindOk ci T D C am ld) (ht : h tl = some (eO 7 [vA mk])) (hm : h mk = some (eI 5 g)) (hg : ∀ j, 0 ≤ g j ∧ g j ≤ 1000000) (ht0 : 0 ≤ t) (hd1 : 3 ≤ d) (hcat : ((st.map cv).map fun v => v.category).sum ≤ 8) (hc : kc ≤ mc) (hs : ks ≤ ms) (k : EX G X d mc ms Q (pc + 3) L (vJ (cval T D C am t) :: st) (hset h mk (eI 5 (tlAt (kindN ci) g))) kc ks) : EX G X d mc ms Q pc L (vA tl :: vI t :: vA c :: st) h kc ks := by
  have hci := hcv.2.2
  simp only [List.mem_cons, List.not_mem_nil, or_false] at hci
  rcases hci with rfl | rfl | rfl | rfl | rfl
  · have z := kc_init (t := t) hok hk ht0
    exact x_callU [vI t, vA tl] hd (by rw [hX]; exact ku_X9_118_0) rfl rfl hcv.1 (d' := 2) hd1 hcat (by omega) (by omega) (k_X0_asked (Nat.le_refl 2) ht hm hg hcv hok ht0 z.2.1 z.2.2) (after_ret (by rw [z.1]; exact k))
  · exact x_callU [vI t, vA tl] hd (by rw [hX]; exact ku_X9_118_1) rfl rfl hcv.1 (d' := 2) hd1 hcat (by omega) (by omega) (k_X1_asked (by omega) ht hm hg hcv hok ht0) (after_ret k)
  · exact x_callU [vI t, vA tl] hd (by rw [hX]; exact ku_X9_118_2) rfl rfl hcv.1 (d' := 2) hd1 hcat (by omega) (by omega) (k_X2_asked (by omega) ht hm hg hcv hok ht0) (after_ret (by rw [kc_wait hok hk ht0]; exact k))
  · exact x_callU [vI t, vA tl] hd (by rw [hX]; exact ku_X9_118_4) rfl rfl hcv.1 (d' := 2) hd1 hcat (by omega) (by omega) (k_X5_asked (by omega) ht hm (fun j => ⟨(hg j).1, by have := (hg j).2; omega⟩) (by simp) hcv hok ht0) (after_ret (by rw [kc_ray hok hk ht0]; exact k))
  · exact x_callU [vI t, vA tl] hd (by rw [hX]; exact ku_X9_118_6) rfl rfl hcv.1 (d' := 2) hd1 hcat (by omega) (by omega) (k_X7_asked (by omega) ht hm hg hcv hok ht0) (after_ret (by rw [kc_clock hok hk ht0]; exact k))
end XA
set_option maxRecDepth 100000 in
set_option maxHeartbeats 4000000 in
theorem k_X9_at {G : aG} {d : Nat} (hd : 5 ≤ d) {x ac ar rr cr ta tm mk md on ot lo hi : Nat} {S : aS} {nc : Nat} {h : aH} (hC : CRel x ac ar rr cr ta tm mk md on ot lo hi S h) (hS : SOk nc S) {f : Int} {t : Int} (hnc : nc ≤ 1000) : MC G mX9_at d 0 0 [vA x, vI f, vI t] h (COut x ac ar rr cr ta tm mk md on ot lo hi h vJ (oAt f t S)) := by
  obtain ⟨⟨o1, o2, o3, o4, o5, o6, o7, o8, o9, oA, oB, oC, oD⟩, hx, ⟨fc, hac, hcs⟩, ⟨fr, har, hrw⟩, ⟨cm, hrr, hcr, hcm⟩, ⟨gt, hta, htm, htl⟩, hmk, ⟨gm, hmd⟩, ⟨g1, hon⟩, ⟨g2, hot⟩⟩ := id hC
  obtain ⟨⟨s1, s2⟩, s3, ⟨s4, s5⟩, ⟨s6, s7, s8⟩, s9, ⟨s10, s11⟩, s12⟩ := id hS
  refine MC.of (by decide) (Nat.le_of_ble_eq_true rfl) (fun ok okh => ?_)
  show EX G mX9_at d 0 0 _ 0 [(0, vA x), (1, vI f), (2, vI t)] [] h 0 0
  refine x_aload_n 0 dX9_at_0 rfl rfl ?_
  refine x_iload_n 1 dX9_at_1 rfl rfl ?_
  refine x_callV [vI f] dX9_at_2 kv_X9_90 rfl rfl hx (by omega) (Nat.le_of_ble_eq_true rfl) (by omega) (by omega) (k_X9_curveNumbered (d := 0) hC hS (f := f)) (fun r1 h1 q1 => ?_)
  rcases q1 with ⟨e2, hn1, rfl⟩ | ⟨e2, hf1, c1, ci1, a1, am1, ld1, rfl, hcx1⟩
  · rw [e2]
    show EX G mX9_at d 0 0 _ _ _ [vN] _ _ _
    refine x_astorer_n (L' := [(3, vN), (0, vA x), (1, vI f), (2, vI t)]) dX9_at_5 rfl (Nat.le_of_ble_eq_true rfl) rfl ?_
    refine x_aloadr_n 0 dX9_at_6 rfl rfl ?_
    refine x_ifnull (r := none) 20 dX9_at_7 (by decide) (fun _ => ?_) (fun z => nomatch z)
    refine x_aload_n 1 dX9_at_20 rfl rfl ?_
    refine x_iconst dX9_at_21 (okI_c rfl) ?_
    refine x_callV [vI ((-1))] dX9_at_22 kv_X9_114 rfl rfl hx (by omega) (Nat.le_of_ble_eq_true rfl) (by omega) (by omega) (k_X9_refusedAmount (d := 0) (S := S)  (hC)) (fun r1 h1 q1 => ?_)
    obtain ⟨rfl, hCz, hFz⟩ := q1
    exact x_lreturn dX9_at_25 rfl (by omega) (by omega) (outC (by rw [oAt, cond_t (by first | exact Or.inl hn1 | exact Or.inr (by omega))]; rfl) hCz (Fr.trans Fr.refl hFz))
  · rw [e2]
    obtain ⟨hcv1, hki1, hok1, hF1, hK1, hL1, hi1, ha1⟩ := id hcx1
    show EX G mX9_at d 0 0 _ _ _ [vA c1] _ _ _
    refine x_astore_n (L' := [(3, vA c1), (0, vA x), (1, vI f), (2, vI t)]) dX9_at_5 rfl (Nat.le_of_ble_eq_true rfl) rfl ?_
    refine x_aload_n 0 dX9_at_6 rfl rfl ?_
    refine x_ifnull (r := some c1) 20 dX9_at_7 (by decide) (fun z => nomatch z) (fun _ => ?_)
    refine x_iload_n 3 dX9_at_10 rfl rfl ?_
    refine x_if_lt 20 dX9_at_11 (by decide) (fun c_11 => ?_) (fun c_11 => ?_)
    · refine x_aload_n 1 dX9_at_20 rfl rfl ?_
      refine x_iconst dX9_at_21 (okI_c rfl) ?_
      refine x_callV [vI ((-1))] dX9_at_22 kv_X9_114 rfl rfl hx (by omega) (Nat.le_of_ble_eq_true rfl) (by omega) (by omega) (k_X9_refusedAmount (d := 0) (S := S)  (hC)) (fun r1 h1 q1 => ?_)
      obtain ⟨rfl, hCz, hFz⟩ := q1
      exact x_lreturn dX9_at_25 rfl (by omega) (by omega) (outC (by rw [oAt, cond_t (by first | exact Or.inl hn1 | exact Or.inr (by omega))]; rfl) hCz (Fr.trans Fr.refl hFz))
    · refine x_iload_n 3 dX9_at_14 rfl rfl ?_
      refine x_ldc (n := 1000000000) dX9_at_15 (okI_c rfl) kc_X9_73 ?_
      refine x_icmp_le 26 dX9_at_17 (by decide) (fun c_17 => ?_) (fun c_17 => ?_)
      · refine x_aload_n 1 dX9_at_26 rfl rfl ?_
        refine x_aload_n 0 dX9_at_27 rfl rfl ?_
        refine x_iload_n 3 dX9_at_28 rfl rfl ?_
        refine x_aload_n 1 dX9_at_29 rfl rfl ?_
        refine x_get 7 dX9_at_30 fl_X9_43 hx rfl ?_
        refine x_asked9 dX9_at_33 rfl hcv1 hok1 hki1 hta htm (fun j => by rw [htl]; have := s12 j; omega) (by omega) (by omega) (Nat.le_of_ble_eq_true rfl) (by omega) (by omega) ?_
        refine x_callV [vJ ((cval (sT S f) (sD S f) (sC S f) am1 t))] dX9_at_36 kv_X9_122 rfl rfl ((hset_ne _ _ (by omega)).trans hx) (by omega) (Nat.le_of_ble_eq_true rfl) (by omega) (by omega) (k_X9_grantedAmount (d := 0) (S := sTal (tlAt (sK S f) (sTl S)) S) (h := (hset h tm (eI 5 (tlAt (kindN ci1) gt)))) (⟨⟨o1, o2, o3, o4, o5, o6, o7, o8, o9, oA, oB, oC, (by rw [hset_ne _ _ (show hi - 1 ≠ tm by omega)]; exact oD)⟩, ((hset_ne _ _ (by omega)).trans hx), ⟨fc, ((hset_ne _ _ (by omega)).trans hac), (fun i q1 q2 => (hcs i q1 q2).keep (by omega))⟩, ⟨fr, ((hset_ne _ _ (by omega)).trans har), hrw⟩, ⟨cm, ((hset_ne _ _ (by omega)).trans hrr), ((hset_ne _ _ (by omega)).trans hcr), hcm⟩, ⟨(tlAt (kindN ci1) gt), ((hset_ne _ _ (by omega)).trans hta), (hset_eq _ _ _), (fun b => by show tlAt (kindN ci1) gt b = tlAt (sK S f) (sTl S) b; rw [← hK1, hki1.1, funext htl])⟩, ((hset_ne _ _ (by omega)).trans hmk), ⟨_, ((hset_ne _ _ (by omega)).trans hmd)⟩, ⟨_, ((hset_ne _ _ (by omega)).trans hon)⟩, ⟨_, ((hset_ne _ _ (by omega)).trans hot)⟩⟩)) (fun r1 h1 q1 => ?_)
        obtain ⟨rfl, hCz, hFz⟩ := q1
        exact x_lreturn dX9_at_39 rfl (by omega) (by omega) (outC (by rw [oAt, cond_f (fun z => z.elim (fun y => y hf1) (fun y => by omega)), ← hF1]; rfl) hCz (Fr.trans (Fr.set Fr.refl (by omega)) hFz))
      · refine x_aload_n 1 dX9_at_20 rfl rfl ?_
        refine x_iconst dX9_at_21 (okI_c rfl) ?_
        refine x_callV [vI ((-1))] dX9_at_22 kv_X9_114 rfl rfl hx (by omega) (Nat.le_of_ble_eq_true rfl) (by omega) (by omega) (k_X9_refusedAmount (d := 0) (S := S)  (hC)) (fun r1 h1 q1 => ?_)
        obtain ⟨rfl, hCz, hFz⟩ := q1
        exact x_lreturn dX9_at_25 rfl (by omega) (by omega) (outC (by rw [oAt, cond_t (by first | exact Or.inl hn1 | exact Or.inr (by omega))]; rfl) hCz (Fr.trans Fr.refl hFz))
