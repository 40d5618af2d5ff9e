/-! ===== FlowCurvesModel: what is being made becomes a curve ===== -/
theorem step_of {H : Int → Int} {d0 c0 e C : Int} (hp : Per H 200 d0 c0) (h0 : 1 ≤ d0) (he : 1 ≤ e) (hno : ∀ u C' : Int, 1 ≤ u → u < e → ¬ Per H 200 u C') (k : Per H 200 e C) : d0 % e = 0 ∧ c0 * e % d0 = 0 ∧ c0 * e / d0 = C := by
  have hm := hp.mod (by omega) k he
  have m0 := Int.emod_nonneg d0 (show e ≠ 0 by omega)
  have m1 := Int.emod_lt_of_pos d0 (show 0 < e by omega)
  have hz : d0 % e = 0 := by
    rcases Int.lt_or_eq_of_le m0 with q | q
    · exact absurd hm (hno _ _ (by omega) m1)
    · exact q.symm
  rw [hz] at hm
  have h1 := hm 200 (Int.le_refl _)
  rw [Int.add_zero] at h1
  have hc : c0 = d0 / e * C := by omega
  have hd := Int.mul_ediv_add_emod d0 e
  have h2 : c0 * e = C * d0 := by
    rw [hc, Int.mul_comm (d0 / e) C, Int.mul_assoc, Int.mul_comm (d0 / e) e, show e * (d0 / e) = d0 by omega]
  exact ⟨hz, by rw [h2]; exact Int.mul_emod_left C d0, by rw [h2]; exact Int.mul_ediv_cancel C (by omega)⟩
theorem cd_b {c0 e d0 : Int} (hc : 0 ≤ c0) (he : 1 ≤ e) (hd : e ≤ d0) : 0 ≤ c0 * e / d0 ∧ c0 * e / d0 ≤ c0 := by
  have h0 : 0 ≤ c0 * e := Int.mul_nonneg hc (by omega)
  refine ⟨Int.ediv_nonneg h0 (by omega), ?_⟩
  have h1 : c0 * e ≤ c0 * d0 := Int.mul_le_mul_of_nonneg_left hd hc
  have := Int.ediv_le_ediv (show 0 < d0 by omega) h1
  rwa [Int.mul_ediv_cancel c0 (show d0 ≠ 0 by omega)] at this
theorem Per.one {H : Int → Int} {t P c : Int} (h : Per H t P c) (k : H (t - 1 + P) = H (t - 1) + c) : Per H (t - 1) P c := fun u q => by
  by_cases z : u = t - 1
  · subst z; exact k
  · exact h u (by omega)
theorem round_of {H : Int → Int} {fr P c : Int} (hfr : fr ≤ 640) (hp : Per H fr P c) (q : ∀ t : Int, 200 ≤ t → t < 640 → H (t + P) = H t + c) : Per H 200 P c := fun t ht => by
  by_cases z : t < 640
  · exact q t ht z
  · exact hp t (by omega)
set_option maxRecDepth 100000 in
set_option maxHeartbeats 4000000 in
theorem k_X10_settle {G : aG} {d : Nat} (hd : 1 ≤ d) {m b1 b2 b3 b4 b5 b6 b7 b8 b9 lo hi : Nat} {S : aS} {nc : Nat} {h : aH} (hM : MRel m b1 b2 b3 b4 b5 b6 b7 b8 b9 lo hi S h) (hS : SOk nc S) {gv : Nat → Int} (hb : h b9 = some (eJ 760 gv)) {H : Int → Int} (hv : Tells gv H 760) (bH : Bnd H 760 4000000000000000) (hMo : Mono H) {d0 c0 : Int} (h60 : sCu S < 60) (hd0 : 1 ≤ d0) (hd60 : d0 ≤ 60) (hc0 : 0 ≤ c0) (hc1 : c0 ≤ 1000000000000) (hround : (∀ t : Int, 200 ≤ t → t < 640 → H (t + d0) = H t + c0) → Per H 200 d0 c0) : MC G mX10_settle d 0 0 [vA m, vI d0, vJ c0] h (MOut m b1 b2 b3 b4 b5 b6 b7 b8 b9 lo hi h vI (mkO H d0 c0 S)) := by
  obtain ⟨⟨o0, o1, o2, o3, o4, o5, o6, o7, o8, o9, oA⟩, hm, ⟨gT, gD, gC, gK, gA, hb1, hb2, hb3, hb4, hb5, hcu⟩, ⟨fr, hb6, hrw⟩, ⟨sm, hb7, hsm⟩, ⟨g8, hb8, htl⟩, ⟨gw, hb9⟩⟩ := id hM
  obtain ⟨⟨s1, s2⟩, s3, ⟨s4, s5⟩, ⟨s6, s7, s8⟩, s9, ⟨s10, s11⟩, s12⟩ := id hS
  refine MC.of (by decide) (Nat.le_of_ble_eq_true rfl) (fun ok okh => ?_)
  show EX G mX10_settle d 0 0 _ 0 [(0, vA m), (1, vI d0), (2, vJ c0)] [] h 0 0
  refine x_aload_n 0 dX10_settle_0 rfl rfl ?_
  refine x_iload_n 1 dX10_settle_1 rfl rfl ?_
  refine x_lload_n 2 dX10_settle_2 rfl rfl ?_
  refine x_sipush dX10_settle_3 (okI_c rfl) (by decide +kernel) ?_
  refine x_callV [vI d0, vJ c0, vI 200] dX10_settle_6 kv_X10_54 rfl rfl hm (by omega) (Nat.le_of_ble_eq_true rfl) (by omega) (by omega) (k_X10_comesRound (d := 0) hM hb hv bH (dd := d0) (c := c0) (a0 := 200) (by omega) (by omega) (by omega) (by omega) (by omega) (by omega)) (after_ret ?_)
  refine x_if_ne 19 dX10_settle_9 (by decide) (fun c_9 => ?_) (fun c_9 => ?_)
  · have p_9 := b2i_ne c_9
    have hper := hround p_9
    refine x_iconst dX10_settle_19 (okI_c rfl) ?_
    refine x_istore (L' := [(4, vI 1), (0, vA m), (1, vI d0), (2, vJ c0)]) dX10_settle_20 (Nat.le_of_ble_eq_true rfl) rfl ?_
    have loop_22 : ∀ (k_22 : Nat) (dd : Int) , (d0 - dd).toNat < k_22 → (1 ≤ dd) → (dd ≤ d0) → (∀ u C' : Int, 1 ≤ u → u < dd → ¬ Per H 200 u C') → EX G mX10_settle d 0 0 (MOut m b1 b2 b3 b4 b5 b6 b7 b8 b9 lo hi h vI (mkO H d0 c0 S)) 22 [(0, vA m), (1, vI d0), (2, vJ c0), (4, vI dd)] [] h 0 0 := by
      intro k_22
      induction k_22 with
      | zero => intro dd hm; exact absurd hm (Nat.not_lt_zero _)
      | succ k_22 ih_22 =>
        intro dd hm_22 he1 he2 hno
        have hcb := cd_b (e := dd) (d0 := d0) hc0 (by omega) (by omega)
        refine x_iload_n 1 dX10_settle_22 rfl rfl ?_
        refine x_iload 3 dX10_settle_23 rfl ?_
        refine x_irem dX10_settle_25 (by omega) (by omega) ?_
        refine x_if_ne 62 dX10_settle_26 (by decide) (fun c_26 => ?_) (fun c_26 => ?_)
        · refine x_iinc 3 (L' := [(4, vI (dd + 1)), (0, vA m), (1, vI d0), (2, vJ c0)]) dX10_settle_62 rfl (by unfold okI; omega) (Nat.le_of_ble_eq_true rfl) rfl ?_
          refine x_goto 22 dX10_settle_65 (by decide) ?_
          have hnd : ∀ C' : Int, ¬ Per H 200 dd C' := fun C' z => by
            have w := step_of hper hd0 he1 hno z
            first | exact absurd w.1 c_26 | exact absurd w.2.1 c_38 | exact p_59 (fun t q1 _ => by rw [w.2.2]; exact z t q1)
          have hlt : dd < d0 := by
            rcases Int.lt_or_le dd d0 with q | q
            · exact q
            · rw [show dd = d0 by omega] at hnd; exact absurd hper (hnd c0)
          exact EX.pick [1, 2, 3, 0] rfl (ih_22 (dd + 1)  (by omega) (by omega) (by omega) (fun u C' q1 q2 => by by_cases q : u = dd; subst q; exact hnd C'; exact hno u C' q1 (by omega)))
        · refine x_lload_n 2 dX10_settle_29 rfl rfl ?_
          refine x_iload 3 dX10_settle_30 rfl ?_
          refine x_i2l dX10_settle_32 ?_
          refine x_lmul dX10_settle_33 (by have := mulB (x := c0) (y := dd) hc0 (by omega) hc1 (show dd ≤ 60 by omega); unfold okJ; omega) ?_
          refine x_iload_n 1 dX10_settle_34 rfl rfl ?_
          refine x_i2l dX10_settle_35 ?_
          refine x_lrem dX10_settle_36 (Int.mul_nonneg hc0 (by omega)) (by omega) ?_
          refine x_lconst (x := 0) dX10_settle_37 (okJ_c rfl) rfl ?_
          refine x_lc_ne 62 dX10_settle_38 dX10_settle_39 (by decide) (fun c_38 => ?_) (fun c_38 => ?_)
          · refine x_iinc 3 (L' := [(4, vI (dd + 1)), (0, vA m), (1, vI d0), (2, vJ c0)]) dX10_settle_62 rfl (by unfold okI; omega) (Nat.le_of_ble_eq_true rfl) rfl ?_
            refine x_goto 22 dX10_settle_65 (by decide) ?_
            have hnd : ∀ C' : Int, ¬ Per H 200 dd C' := fun C' z => by
              have w := step_of hper hd0 he1 hno z
              first | exact absurd w.1 c_26 | exact absurd w.2.1 c_38 | exact p_59 (fun t q1 _ => by rw [w.2.2]; exact z t q1)
            have hlt : dd < d0 := by
              rcases Int.lt_or_le dd d0 with q | q
              · exact q
              · rw [show dd = d0 by omega] at hnd; exact absurd hper (hnd c0)
            exact EX.pick [1, 2, 3, 0] rfl (ih_22 (dd + 1)  (by omega) (by omega) (by omega) (fun u C' q1 q2 => by by_cases q : u = dd; subst q; exact hnd C'; exact hno u C' q1 (by omega)))
          · refine x_aload_n 0 dX10_settle_42 rfl rfl ?_
            refine x_iload 3 dX10_settle_43 rfl ?_
            refine x_lload_n 2 dX10_settle_45 rfl rfl ?_
            refine x_iload 3 dX10_settle_46 rfl ?_
            refine x_i2l dX10_settle_48 ?_
            refine x_lmul dX10_settle_49 (by have := mulB (x := c0) (y := dd) hc0 (by omega) hc1 (show dd ≤ 60 by omega); unfold okJ; omega) ?_
            refine x_iload_n 1 dX10_settle_50 rfl rfl ?_
            refine x_i2l dX10_settle_51 ?_
            refine x_ldiv dX10_settle_52 (Int.mul_nonneg hc0 (by omega)) (by omega) ?_
            refine x_sipush dX10_settle_53 (okI_c rfl) (by decide +kernel) ?_
            refine x_callV [vI dd, vJ ((c0 * dd) / d0), vI 200] dX10_settle_56 kv_X10_54 rfl rfl hm (by omega) (Nat.le_of_ble_eq_true rfl) (by omega) (by omega) (k_X10_comesRound (d := 0) hM hb hv bH (dd := dd) (c := c0 * dd / d0) (a0 := 200) (by omega) (by omega) (by omega) (by omega) (by omega) (by omega)) (after_ret ?_)
            refine x_if_ne 68 dX10_settle_59 (by decide) (fun c_59 => ?_) (fun c_59 => ?_)
            · have p_59 := b2i_ne c_59
              have hpd : Per H 200 dd (c0 * dd / d0) := hper.turn hd0 (fun t q1 q2 => p_59 t q1 (by omega)) (by omega)
              refine x_lload_n 2 dX10_settle_68 rfl rfl ?_
              refine x_iload 3 dX10_settle_69 rfl ?_
              refine x_i2l dX10_settle_71 ?_
              refine x_lmul dX10_settle_72 (by have := mulB (x := c0) (y := dd) hc0 (by omega) hc1 (show dd ≤ 60 by omega); unfold okJ; omega) ?_
              refine x_iload_n 1 dX10_settle_73 rfl rfl ?_
              refine x_i2l dX10_settle_74 ?_
              refine x_ldiv dX10_settle_75 (Int.mul_nonneg hc0 (by omega)) (by omega) ?_
              refine x_nmJ (fun c e_c => ?_)
              refine x_lstore (L' := [(5, vJ c), (0, vA m), (1, vI d0), (2, vJ c0), (4, vI dd)]) dX10_settle_76 (Nat.le_of_ble_eq_true rfl) rfl ?_
              have cut_145 : ∀ (t : Int) (ie : Int), 0 ≤ t → t ≤ 200 → Canon H t dd c → ie = b2i (c ≤ 1000000000) → EX G mX10_settle d 0 0 (MOut m b1 b2 b3 b4 b5 b6 b7 b8 b9 lo hi h vI (mkO H d0 c0 S)) 145 [(0, vA m), (1, vI d0), (2, vJ c0), (4, vI dd), (5, vJ c), (7, vI t), (8, vI ie)] [] h 0 0 := by
                intro t ie ht0 ht2 hcan hie
                refine x_iconst dX10_settle_145 (okI_c rfl) ?_
                refine x_istore (L' := [(9, vI 0), (0, vA m), (1, vI d0), (2, vJ c0), (4, vI dd), (5, vJ c), (7, vI t), (8, vI ie)]) dX10_settle_146 (Nat.le_of_ble_eq_true rfl) rfl ?_
                have loop_148 : ∀ (k_148 : Nat) (ie : Int) (k : Int) , (t + dd - k).toNat < k_148 → (0 ≤ k) → (k ≤ t + dd) → (ie = b2i (c ≤ 1000000000 ∧ ∀ u : Int, 0 ≤ u → u < k → H u ≤ 1000000000000)) → EX G mX10_settle d 0 0 (MOut m b1 b2 b3 b4 b5 b6 b7 b8 b9 lo hi h vI (mkO H d0 c0 S)) 148 [(0, vA m), (1, vI d0), (2, vJ c0), (4, vI dd), (5, vJ c), (7, vI t), (8, vI ie), (9, vI k)] [] h 0 0 := by
                  intro k_148
                  induction k_148 with
                  | zero => intro ie k hm; exact absurd hm (Nat.not_lt_zero _)
                  | succ k_148 ih_148 =>
                    intro ie k hm_148 hk0 hk1 hie2
                    refine x_iload 7 dX10_settle_148 rfl ?_
                    refine x_iload 5 dX10_settle_150 rfl ?_
                    refine x_iload 3 dX10_settle_152 rfl ?_
                    refine x_iadd dX10_settle_154 (by unfold okI; omega) ?_
                    refine x_icmp_ge 190 dX10_settle_155 (by decide) (fun c_155 => ?_) (fun c_155 => ?_)
                    · refine x_iload 6 dX10_settle_190 rfl ?_
                      refine x_if_ne 202 dX10_settle_192 (by decide) (fun c_192 => ?_) (fun c_192 => ?_)
                      · have hinb : InB H t dd c := by
                          have z := b2i_ne (P := (c ≤ 1000000000 ∧ ∀ u : Int, 0 ≤ u → u < k → H u ≤ 1000000000000)) (by rw [← hie2]; exact c_192)
                          refine ⟨z.1, ?_⟩
                          first | exact z.2 (t + dd - 1) (by omega) (by omega) | exact absurd c_160 c_192
                        refine x_aload_n 0 dX10_settle_202 rfl rfl ?_
                        refine x_get 0 dX10_settle_203 fl_X10_47 hm rfl ?_
                        refine x_nmI (fun cu e_cu => ?_)
                        refine x_istore (L' := [(9, vI cu), (0, vA m), (1, vI d0), (2, vJ c0), (4, vI dd), (5, vJ c), (7, vI t), (8, vI ie)]) dX10_settle_206 (Nat.le_of_ble_eq_true rfl) rfl ?_
                        refine x_aload_n 1 dX10_settle_208 rfl rfl ?_
                        refine x_get 1 dX10_settle_209 fl_X10_7 hm rfl ?_
                        refine x_iload 0 dX10_settle_212 rfl ?_
                        refine x_iload 6 dX10_settle_214 rfl ?_
                        refine x_iastore dX10_settle_216 hb1 (by omega) (by omega) ?_
                        refine x_aload_n 1 dX10_settle_217 rfl rfl ?_
                        refine x_get 2 dX10_settle_218 fl_X10_13 ((hset_ne _ _ (by omega)).trans hm) rfl ?_
                        refine x_iload 0 dX10_settle_221 rfl ?_
                        refine x_iload 4 dX10_settle_223 rfl ?_
                        refine x_iastore dX10_settle_225 ((hset_ne _ _ (by omega)).trans hb2) (by omega) (by omega) ?_
                        refine x_aload_n 1 dX10_settle_226 rfl rfl ?_
                        refine x_get 3 dX10_settle_227 fl_X10_16 ((hset_ne _ _ (by omega)).trans ((hset_ne _ _ (by omega)).trans hm)) rfl ?_
                        refine x_iload 0 dX10_settle_230 rfl ?_
                        refine x_lload 5 dX10_settle_232 rfl ?_
                        refine x_lastore dX10_settle_234 ((hset_ne _ _ (by omega)).trans ((hset_ne _ _ (by omega)).trans hb3)) (by omega) (by omega) ?_
                        refine x_iconst dX10_settle_235 (okI_c rfl) ?_
                        refine x_istore (L' := [(10, vI 0), (9, vI cu), (0, vA m), (1, vI d0), (2, vJ c0), (4, vI dd), (5, vJ c), (7, vI t), (8, vI ie)]) dX10_settle_236 (Nat.le_of_ble_eq_true rfl) rfl ?_
                        have loop_238 : ∀ (k_238 : Nat) (k : Int) (ga : Nat → Int), (t + dd - k).toNat < k_238 → (0 ≤ k) → (k ≤ t + dd) → (∀ j : Int, 0 ≤ j → j < k → ga (300 * cu + j).toNat = H j) → (∀ n : Nat, (n : Int) < 300 * cu → ga n = gA n) → EX G mX10_settle d 0 0 (MOut m b1 b2 b3 b4 b5 b6 b7 b8 b9 lo hi h vI (mkO H d0 c0 S)) 238 [(0, vA m), (1, vI d0), (2, vJ c0), (4, vI dd), (5, vJ c), (7, vI t), (9, vI cu), (10, vI k)] [] (hset (hset (hset (hset h b1 (eI 60 (va_up gT cu.toNat t))) b2 (eI 60 (va_up gD cu.toNat dd))) b3 (eJ 60 (va_up gC cu.toNat c))) b5 (eJ 18000 ga)) 0 0 := by
                          intro k_238
                          induction k_238 with
                          | zero => intro k ga hm; exact absurd hm (Nat.not_lt_zero _)
                          | succ k_238 ih_238 =>
                            intro k ga hm_238 hk0 hk1 hga hgo
                            refine x_iload 7 dX10_settle_238 rfl ?_
                            refine x_iload 5 dX10_settle_240 rfl ?_
                            refine x_iload 3 dX10_settle_242 rfl ?_
                            refine x_iadd dX10_settle_244 (by unfold okI; omega) ?_
                            refine x_icmp_ge 275 dX10_settle_245 (by decide) (fun c_245 => ?_) (fun c_245 => ?_)
                            · refine x_aload_n 0 dX10_settle_275 rfl rfl ?_
                              refine x_get 4 dX10_settle_276 fl_X10_20 ((hset_ne _ _ (by omega)).trans ((hset_ne _ _ (by omega)).trans ((hset_ne _ _ (by omega)).trans ((hset_ne _ _ (by omega)).trans hm)))) rfl ?_
                              refine x_iload 6 dX10_settle_279 rfl ?_
                              refine x_aload_n 0 dX10_settle_281 rfl rfl ?_
                              refine x_iload 6 dX10_settle_282 rfl ?_
                              refine x_callV [vI cu] dX10_settle_284 kv_X10_66 rfl rfl ((hset_ne _ _ (by omega)).trans ((hset_ne _ _ (by omega)).trans ((hset_ne _ _ (by omega)).trans ((hset_ne _ _ (by omega)).trans hm)))) (by omega) (Nat.le_of_ble_eq_true rfl) (by omega) (by omega) (k_X10_kindOf (d := 0) (lo := lo) (hi := hi) (S := S) ((hset_ne _ _ (by omega)).trans ((hset_ne _ _ (by omega)).trans ((hset_ne _ _ (by omega)).trans ((hset_ne _ _ (by omega)).trans hm)))) ((hset_ne _ _ (by omega)).trans ((hset_ne _ _ (by omega)).trans ((hset_ne _ _ (by omega)).trans (hset_eq _ _ _)))) ((hset_ne _ _ (by omega)).trans ((hset_ne _ _ (by omega)).trans (hset_eq _ _ _))) ((hset_ne _ _ (by omega)).trans (hset_eq _ _ _)) (hset_eq _ _ _) (f := cu) (T := t) (D := dd) (C := c) (A := fun j : Nat => H j) (by omega) (by omega) (va_up_self _ _ _) (va_up_self _ _ _) (va_up_self _ _ _) (fun u q1 q2 => by show ga (300 * cu + u).toNat = H ((u.toNat : Nat) : Int); rw [hga u q1 (by omega), show ((u.toNat : Nat) : Int) = u by omega]) (cvok_of hMo hcan (by omega) hinb (fun u q1 q2 => by show H ((u.toNat : Nat) : Int) = H u; rw [show ((u.toNat : Nat) : Int) = u by omega]))) (after_ret ?_)
                              refine x_iastore dX10_settle_287 ((hset_ne _ _ (by omega)).trans ((hset_ne _ _ (by omega)).trans ((hset_ne _ _ (by omega)).trans ((hset_ne _ _ (by omega)).trans hb4)))) (by omega) (by omega) ?_
                              refine x_aload_n 0 dX10_settle_288 rfl rfl ?_
                              refine x_dup dX10_settle_289 rfl ?_
                              refine x_get 0 dX10_settle_290 fl_X10_47 ((hset_ne _ _ (by omega)).trans ((hset_ne _ _ (by omega)).trans ((hset_ne _ _ (by omega)).trans ((hset_ne _ _ (by omega)).trans ((hset_ne _ _ (by omega)).trans hm))))) rfl ?_
                              refine x_iconst dX10_settle_293 (okI_c rfl) ?_
                              refine x_iadd dX10_settle_294 (by unfold okI; omega) ?_
                              refine x_put 0 dX10_settle_295 pu_X10_47 ((hset_ne _ _ (by omega)).trans ((hset_ne _ _ (by omega)).trans ((hset_ne _ _ (by omega)).trans ((hset_ne _ _ (by omega)).trans ((hset_ne _ _ (by omega)).trans hm))))) rfl rfl (Nat.le_of_ble_eq_true rfl) ?_
                              refine x_aload_n 0 dX10_settle_298 rfl rfl ?_
                              refine x_iconst dX10_settle_299 (okI_c rfl) ?_
                              refine x_put 6 dX10_settle_300 pu_X10_69 (hset_eq _ _ _) (by decide +kernel) (by decide +kernel) (Nat.le_of_ble_eq_true rfl) ?_
                              refine x_aload_n 0 dX10_settle_303 rfl rfl ?_
                              refine x_iload 6 dX10_settle_304 rfl ?_
                              refine x_callV [vI cu] dX10_settle_306 kv_X10_73 rfl rfl (hset_eq _ _ _) (by omega) (Nat.le_of_ble_eq_true rfl) (by omega) (by omega) (k_X10_fine (d := 0) (S := sLa (sLt S) (sAdd t dd c H S)) (h := (hset (hset (hset (hset (hset (hset (hset h b1 (eI 60 (va_up gT cu.toNat t))) b2 (eI 60 (va_up gD cu.toNat dd))) b3 (eJ 60 (va_up gC cu.toNat c))) b5 (eJ 18000 ga)) b4 (eI 60 (va_up gK cu.toNat ((kindS t dd c (fun j : Nat => H j)))))) m (eO 9 [vI (((sCu S)) + 1), vA b1, vA b2, vA b3, vA b4, vA b5, vI ((sMu S)), vA b6, vI ((sRn S)), vA b7, vI ((sSn S)), vI ((sSv S)), vA b8, vI ((sLt S)), vA b9])) m (eO 9 [vI (((sCu S)) + 1), vA b1, vA b2, vA b3, vA b4, vA b5, vI 1, vA b6, vI ((sRn S)), vA b7, vI ((sSn S)), vI ((sSv S)), vA b8, vI ((sLt S)), vA b9]))) (⟨⟨o0, o1, o2, o3, o4, o5, o6, o7, o8, o9, oA⟩, (hset_eq _ _ _), ⟨(va_up gT cu.toNat t), (va_up gD cu.toNat dd), (va_up gC cu.toNat c), (va_up gK cu.toNat ((kindS t dd c (fun j : Nat => H j)))), ga, ((hset_ne _ _ (by omega)).trans ((hset_ne _ _ (by omega)).trans ((hset_ne _ _ (by omega)).trans ((hset_ne _ _ (by omega)).trans ((hset_ne _ _ (by omega)).trans ((hset_ne _ _ (by omega)).trans (hset_eq _ _ _))))))), ((hset_ne _ _ (by omega)).trans ((hset_ne _ _ (by omega)).trans ((hset_ne _ _ (by omega)).trans ((hset_ne _ _ (by omega)).trans ((hset_ne _ _ (by omega)).trans (hset_eq _ _ _)))))), ((hset_ne _ _ (by omega)).trans ((hset_ne _ _ (by omega)).trans ((hset_ne _ _ (by omega)).trans ((hset_ne _ _ (by omega)).trans (hset_eq _ _ _))))), ((hset_ne _ _ (by omega)).trans ((hset_ne _ _ (by omega)).trans (hset_eq _ _ _))), ((hset_ne _ _ (by omega)).trans ((hset_ne _ _ (by omega)).trans ((hset_ne _ _ (by omega)).trans (hset_eq _ _ _)))), (fun i q1 q2 => by
                                        have q3 : i < sCu S + 1 := q2
                                        show va_up gT cu.toNat t i.toNat = iup (sT S) (sCu S) t i ∧ va_up gD cu.toNat dd i.toNat = iup (sD S) (sCu S) dd i ∧ va_up gC cu.toNat c i.toNat = iup (sC S) (sCu S) c i ∧ va_up gK cu.toNat (kindS t dd c (fun j : Nat => H j)) i.toNat = kindS (iup (sT S) (sCu S) t i) (iup (sD S) (sCu S) dd i) (iup (sC S) (sCu S) c i) (iup (sA S) (sCu S) (fun k : Nat => H k) i) ∧ ∀ t' : Int, 0 ≤ t' → t' < iup (sT S) (sCu S) t i + iup (sD S) (sCu S) dd i → ga (300 * i + t').toNat = iup (sA S) (sCu S) (fun k : Nat => H k) i t'.toNat
                                        by_cases q : i = cu
                                        · rw [q, ← e_cu]
                                          refine ⟨by rw [va_up_self, iup_self], by rw [va_up_self, iup_self], by rw [va_up_self, iup_self], by rw [va_up_self, iup_self, iup_self, iup_self, iup_self], fun t' r1 r2 => ?_⟩
                                          rw [iup_self, iup_self] at r2
                                          rw [iup_self, hga t' r1 (by omega)]
                                          show H t' = H ((t'.toNat : Nat) : Int)
                                          rw [show ((t'.toNat : Nat) : Int) = t' by omega]
                                        · have q4 : i ≠ sCu S := by omega
                                          have hz := hcu i q1 (by omega)
                                          refine ⟨by rw [va_up_ne _ _ (by omega), iup_ne _ _ q4]; exact hz.1, by rw [va_up_ne _ _ (by omega), iup_ne _ _ q4]; exact hz.2.1, by rw [va_up_ne _ _ (by omega), iup_ne _ _ q4]; exact hz.2.2.1, by rw [va_up_ne _ _ (by omega), iup_ne _ _ q4, iup_ne _ _ q4, iup_ne _ _ q4, iup_ne _ _ q4]; exact hz.2.2.2.1, fun t' r1 r2 => ?_⟩
                                          rw [iup_ne _ _ q4, iup_ne _ _ q4] at r2
                                          rw [iup_ne _ _ q4, hgo _ (by have := (s3 i q1 (by omega)).2.1; have := (s3 i q1 (by omega)).2.2.2.1; omega)]
                                          exact hz.2.2.2.2 t' r1 r2)⟩, ⟨fr, ((hset_ne _ _ (by omega)).trans ((hset_ne _ _ (by omega)).trans ((hset_ne _ _ (by omega)).trans ((hset_ne _ _ (by omega)).trans ((hset_ne _ _ (by omega)).trans ((hset_ne _ _ (by omega)).trans ((hset_ne _ _ (by omega)).trans hb6))))))), hrw⟩, ⟨sm, ((hset_ne _ _ (by omega)).trans ((hset_ne _ _ (by omega)).trans ((hset_ne _ _ (by omega)).trans ((hset_ne _ _ (by omega)).trans ((hset_ne _ _ (by omega)).trans ((hset_ne _ _ (by omega)).trans ((hset_ne _ _ (by omega)).trans hb7))))))), hsm⟩, ⟨g8, ((hset_ne _ _ (by omega)).trans ((hset_ne _ _ (by omega)).trans ((hset_ne _ _ (by omega)).trans ((hset_ne _ _ (by omega)).trans ((hset_ne _ _ (by omega)).trans ((hset_ne _ _ (by omega)).trans ((hset_ne _ _ (by omega)).trans hb8))))))), htl⟩, ⟨_, ((hset_ne _ _ (by omega)).trans ((hset_ne _ _ (by omega)).trans ((hset_ne _ _ (by omega)).trans ((hset_ne _ _ (by omega)).trans ((hset_ne _ _ (by omega)).trans ((hset_ne _ _ (by omega)).trans ((hset_ne _ _ (by omega)).trans hb)))))))⟩⟩)) (fun r1 h1 q1 => ?_)
                              obtain ⟨rfl, hCz, hFz⟩ := q1
                              exact x_ireturn dX10_settle_309 rfl (by omega) (by omega) (outM (by rw [mkO_yes ⟨hper, hcan, hinb⟩, e_cu]; rfl) hCz (MFr.trans (MFr.set (MFr.set (MFr.set (MFr.set (MFr.set (MFr.set (MFr.set MFr.refl (by omega) (by omega)) (by omega) (by omega)) (by omega) (by omega)) (by omega) (by omega)) (by omega) (by omega)) (by omega) (by omega)) (by omega) (by omega)) hFz))
                            · refine x_aload_n 0 dX10_settle_248 rfl rfl ?_
                              refine x_get 5 dX10_settle_249 fl_X10_23 ((hset_ne _ _ (by omega)).trans ((hset_ne _ _ (by omega)).trans ((hset_ne _ _ (by omega)).trans ((hset_ne _ _ (by omega)).trans hm)))) rfl ?_
                              refine x_sipush dX10_settle_252 (okI_c rfl) (by decide +kernel) ?_
                              refine x_iload 6 dX10_settle_255 rfl ?_
                              refine x_imul dX10_settle_257 (by unfold okI; omega) ?_
                              refine x_iload 7 dX10_settle_258 rfl ?_
                              refine x_iadd dX10_settle_260 (by unfold okI; omega) ?_
                              refine x_aload_n 0 dX10_settle_261 rfl rfl ?_
                              refine x_get 14 dX10_settle_262 fl_X10_39 ((hset_ne _ _ (by omega)).trans ((hset_ne _ _ (by omega)).trans ((hset_ne _ _ (by omega)).trans ((hset_ne _ _ (by omega)).trans hm)))) rfl ?_
                              refine x_iload 7 dX10_settle_265 rfl ?_
                              refine x_laload dX10_settle_267 ((hset_ne _ _ (by omega)).trans ((hset_ne _ _ (by omega)).trans ((hset_ne _ _ (by omega)).trans ((hset_ne _ _ (by omega)).trans hb)))) (by omega) (by omega) ?_
                              refine x_asJ (y := (H k)) (hv k (by omega) (by omega)) ?_
                              refine x_lastore dX10_settle_268 (hset_eq _ _ _) (by omega) (by omega) ?_
                              refine x_iinc 7 (L' := [(10, vI (k + 1)), (0, vA m), (1, vI d0), (2, vJ c0), (4, vI dd), (5, vJ c), (7, vI t), (9, vI cu)]) dX10_settle_269 rfl (by unfold okI; omega) (Nat.le_of_ble_eq_true rfl) rfl ?_
                              refine x_goto 238 dX10_settle_272 (by decide) ?_
                              exact EX.pick [1, 2, 3, 4, 5, 6, 7, 0] rfl (x_ash (hset_hset _ _ _ _) (ih_238 (k + 1) (va_up ga (300 * cu + k).toNat (H k)) (by omega) (by omega) (by omega) (fun j q1 q2 => by by_cases q : j = k; subst q; rw [va_up_self]; rw [va_up_ne _ _ (by omega)]; exact hga j q1 (by omega)) (fun n q => by rw [va_up_ne _ _ (by omega)]; exact hgo n q)))
                        exact EX.pick [2, 3, 4, 5, 6, 7, 1, 0] rfl (x_ash (hset_self ((hset_ne _ _ (by omega)).trans ((hset_ne _ _ (by omega)).trans ((hset_ne _ _ (by omega)).trans hb5)))).symm (loop_238 ((t + dd - (0 : Int)).toNat + 1) 0 gA (Nat.lt_succ_self _) (by omega) (by omega) (fun j q1 q2 => by omega) (fun n q => rfl)))
                      · refine x_aload_n 0 dX10_settle_195 rfl rfl ?_
                        refine x_bipush dX10_settle_196 (okI_c rfl) (by decide +kernel) ?_
                        refine x_callV [vI ((-4))] dX10_settle_198 kv_X10_58 rfl rfl hm (by omega) (Nat.le_of_ble_eq_true rfl) (by omega) (by omega) (k_X10_refuse (d := 0) (S := S)  (hM)) (fun r1 h1 q1 => ?_)
                        obtain ⟨rfl, hCz, hFz⟩ := q1
                        exact x_ireturn dX10_settle_201 rfl (by omega) (by omega) (outM (mkO_no (no_big hcan (fun z => (b2i_eq (P := (c ≤ 1000000000 ∧ ∀ u : Int, 0 ≤ u → u < k → H u ≤ 1000000000000)) (by rw [← hie2]; exact c_192)) ⟨z.1, fun u q1 q2 => Int.le_trans (hMo.2 u (t + dd - 1) q1 (by omega)) z.2⟩))) hCz (MFr.trans MFr.refl hFz))
                    · refine x_iload 6 dX10_settle_158 rfl ?_
                      refine x_if_eq 190 dX10_settle_160 (by decide) (fun c_160 => ?_) (fun c_160 => ?_)
                      · refine x_iload 6 dX10_settle_190 rfl ?_
                        refine x_if_ne 202 dX10_settle_192 (by decide) (fun c_192 => ?_) (fun c_192 => ?_)
                        · have hinb : InB H t dd c := by
                            have z := b2i_ne (P := (c ≤ 1000000000 ∧ ∀ u : Int, 0 ≤ u → u < k → H u ≤ 1000000000000)) (by rw [← hie2]; exact c_192)
                            refine ⟨z.1, ?_⟩
                            first | exact z.2 (t + dd - 1) (by omega) (by omega) | exact absurd c_160 c_192
                          refine x_aload_n 0 dX10_settle_202 rfl rfl ?_
                          refine x_get 0 dX10_settle_203 fl_X10_47 hm rfl ?_
                          refine x_nmI (fun cu e_cu => ?_)
                          refine x_istore (L' := [(9, vI cu), (0, vA m), (1, vI d0), (2, vJ c0), (4, vI dd), (5, vJ c), (7, vI t), (8, vI ie)]) dX10_settle_206 (Nat.le_of_ble_eq_true rfl) rfl ?_
                          refine x_aload_n 1 dX10_settle_208 rfl rfl ?_
                          refine x_get 1 dX10_settle_209 fl_X10_7 hm rfl ?_
                          refine x_iload 0 dX10_settle_212 rfl ?_
                          refine x_iload 6 dX10_settle_214 rfl ?_
                          refine x_iastore dX10_settle_216 hb1 (by omega) (by omega) ?_
                          refine x_aload_n 1 dX10_settle_217 rfl rfl ?_
                          refine x_get 2 dX10_settle_218 fl_X10_13 ((hset_ne _ _ (by omega)).trans hm) rfl ?_
                          refine x_iload 0 dX10_settle_221 rfl ?_
                          refine x_iload 4 dX10_settle_223 rfl ?_
                          refine x_iastore dX10_settle_225 ((hset_ne _ _ (by omega)).trans hb2) (by omega) (by omega) ?_
                          refine x_aload_n 1 dX10_settle_226 rfl rfl ?_
                          refine x_get 3 dX10_settle_227 fl_X10_16 ((hset_ne _ _ (by omega)).trans ((hset_ne _ _ (by omega)).trans hm)) rfl ?_
                          refine x_iload 0 dX10_settle_230 rfl ?_
                          refine x_lload 5 dX10_settle_232 rfl ?_
                          refine x_lastore dX10_settle_234 ((hset_ne _ _ (by omega)).trans ((hset_ne _ _ (by omega)).trans hb3)) (by omega) (by omega) ?_
                          refine x_iconst dX10_settle_235 (okI_c rfl) ?_
                          refine x_istore (L' := [(10, vI 0), (9, vI cu), (0, vA m), (1, vI d0), (2, vJ c0), (4, vI dd), (5, vJ c), (7, vI t), (8, vI ie)]) dX10_settle_236 (Nat.le_of_ble_eq_true rfl) rfl ?_
                          have loop_238 : ∀ (k_238 : Nat) (k : Int) (ga : Nat → Int), (t + dd - k).toNat < k_238 → (0 ≤ k) → (k ≤ t + dd) → (∀ j : Int, 0 ≤ j → j < k → ga (300 * cu + j).toNat = H j) → (∀ n : Nat, (n : Int) < 300 * cu → ga n = gA n) → EX G mX10_settle d 0 0 (MOut m b1 b2 b3 b4 b5 b6 b7 b8 b9 lo hi h vI (mkO H d0 c0 S)) 238 [(0, vA m), (1, vI d0), (2, vJ c0), (4, vI dd), (5, vJ c), (7, vI t), (9, vI cu), (10, vI k)] [] (hset (hset (hset (hset h b1 (eI 60 (va_up gT cu.toNat t))) b2 (eI 60 (va_up gD cu.toNat dd))) b3 (eJ 60 (va_up gC cu.toNat c))) b5 (eJ 18000 ga)) 0 0 := by
                            intro k_238
                            induction k_238 with
                            | zero => intro k ga hm; exact absurd hm (Nat.not_lt_zero _)
                            | succ k_238 ih_238 =>
                              intro k ga hm_238 hk0 hk1 hga hgo
                              refine x_iload 7 dX10_settle_238 rfl ?_
                              refine x_iload 5 dX10_settle_240 rfl ?_
                              refine x_iload 3 dX10_settle_242 rfl ?_
                              refine x_iadd dX10_settle_244 (by unfold okI; omega) ?_
                              refine x_icmp_ge 275 dX10_settle_245 (by decide) (fun c_245 => ?_) (fun c_245 => ?_)
                              · refine x_aload_n 0 dX10_settle_275 rfl rfl ?_
                                refine x_get 4 dX10_settle_276 fl_X10_20 ((hset_ne _ _ (by omega)).trans ((hset_ne _ _ (by omega)).trans ((hset_ne _ _ (by omega)).trans ((hset_ne _ _ (by omega)).trans hm)))) rfl ?_
                                refine x_iload 6 dX10_settle_279 rfl ?_
                                refine x_aload_n 0 dX10_settle_281 rfl rfl ?_
                                refine x_iload 6 dX10_settle_282 rfl ?_
                                refine x_callV [vI cu] dX10_settle_284 kv_X10_66 rfl rfl ((hset_ne _ _ (by omega)).trans ((hset_ne _ _ (by omega)).trans ((hset_ne _ _ (by omega)).trans ((hset_ne _ _ (by omega)).trans hm)))) (by omega) (Nat.le_of_ble_eq_true rfl) (by omega) (by omega) (k_X10_kindOf (d := 0) (lo := lo) (hi := hi) (S := S) ((hset_ne _ _ (by omega)).trans ((hset_ne _ _ (by omega)).trans ((hset_ne _ _ (by omega)).trans ((hset_ne _ _ (by omega)).trans hm)))) ((hset_ne _ _ (by omega)).trans ((hset_ne _ _ (by omega)).trans ((hset_ne _ _ (by omega)).trans (hset_eq _ _ _)))) ((hset_ne _ _ (by omega)).trans ((hset_ne _ _ (by omega)).trans (hset_eq _ _ _))) ((hset_ne _ _ (by omega)).trans (hset_eq _ _ _)) (hset_eq _ _ _) (f := cu) (T := t) (D := dd) (C := c) (A := fun j : Nat => H j) (by omega) (by omega) (va_up_self _ _ _) (va_up_self _ _ _) (va_up_self _ _ _) (fun u q1 q2 => by show ga (300 * cu + u).toNat = H ((u.toNat : Nat) : Int); rw [hga u q1 (by omega), show ((u.toNat : Nat) : Int) = u by omega]) (cvok_of hMo hcan (by omega) hinb (fun u q1 q2 => by show H ((u.toNat : Nat) : Int) = H u; rw [show ((u.toNat : Nat) : Int) = u by omega]))) (after_ret ?_)
                                refine x_iastore dX10_settle_287 ((hset_ne _ _ (by omega)).trans ((hset_ne _ _ (by omega)).trans ((hset_ne _ _ (by omega)).trans ((hset_ne _ _ (by omega)).trans hb4)))) (by omega) (by omega) ?_
                                refine x_aload_n 0 dX10_settle_288 rfl rfl ?_
                                refine x_dup dX10_settle_289 rfl ?_
                                refine x_get 0 dX10_settle_290 fl_X10_47 ((hset_ne _ _ (by omega)).trans ((hset_ne _ _ (by omega)).trans ((hset_ne _ _ (by omega)).trans ((hset_ne _ _ (by omega)).trans ((hset_ne _ _ (by omega)).trans hm))))) rfl ?_
                                refine x_iconst dX10_settle_293 (okI_c rfl) ?_
                                refine x_iadd dX10_settle_294 (by unfold okI; omega) ?_
                                refine x_put 0 dX10_settle_295 pu_X10_47 ((hset_ne _ _ (by omega)).trans ((hset_ne _ _ (by omega)).trans ((hset_ne _ _ (by omega)).trans ((hset_ne _ _ (by omega)).trans ((hset_ne _ _ (by omega)).trans hm))))) rfl rfl (Nat.le_of_ble_eq_true rfl) ?_
                                refine x_aload_n 0 dX10_settle_298 rfl rfl ?_
                                refine x_iconst dX10_settle_299 (okI_c rfl) ?_
                                refine x_put 6 dX10_settle_300 pu_X10_69 (hset_eq _ _ _) (by decide +kernel) (by decide +kernel) (Nat.le_of_ble_eq_true rfl) ?_
                                refine x_aload_n 0 dX10_settle_303 rfl rfl ?_
                                refine x_iload 6 dX10_settle_304 rfl ?_
                                refine x_callV [vI cu] dX10_settle_306 kv_X10_73 rfl rfl (hset_eq _ _ _) (by omega) (Nat.le_of_ble_eq_true rfl) (by omega) (by omega) (k_X10_fine (d := 0) (S := sLa (sLt S) (sAdd t dd c H S)) (h := (hset (hset (hset (hset (hset (hset (hset h b1 (eI 60 (va_up gT cu.toNat t))) b2 (eI 60 (va_up gD cu.toNat dd))) b3 (eJ 60 (va_up gC cu.toNat c))) b5 (eJ 18000 ga)) b4 (eI 60 (va_up gK cu.toNat ((kindS t dd c (fun j : Nat => H j)))))) m (eO 9 [vI (((sCu S)) + 1), vA b1, vA b2, vA b3, vA b4, vA b5, vI ((sMu S)), vA b6, vI ((sRn S)), vA b7, vI ((sSn S)), vI ((sSv S)), vA b8, vI ((sLt S)), vA b9])) m (eO 9 [vI (((sCu S)) + 1), vA b1, vA b2, vA b3, vA b4, vA b5, vI 1, vA b6, vI ((sRn S)), vA b7, vI ((sSn S)), vI ((sSv S)), vA b8, vI ((sLt S)), vA b9]))) (⟨⟨o0, o1, o2, o3, o4, o5, o6, o7, o8, o9, oA⟩, (hset_eq _ _ _), ⟨(va_up gT cu.toNat t), (va_up gD cu.toNat dd), (va_up gC cu.toNat c), (va_up gK cu.toNat ((kindS t dd c (fun j : Nat => H j)))), ga, ((hset_ne _ _ (by omega)).trans ((hset_ne _ _ (by omega)).trans ((hset_ne _ _ (by omega)).trans ((hset_ne _ _ (by omega)).trans ((hset_ne _ _ (by omega)).trans ((hset_ne _ _ (by omega)).trans (hset_eq _ _ _))))))), ((hset_ne _ _ (by omega)).trans ((hset_ne _ _ (by omega)).trans ((hset_ne _ _ (by omega)).trans ((hset_ne _ _ (by omega)).trans ((hset_ne _ _ (by omega)).trans (hset_eq _ _ _)))))), ((hset_ne _ _ (by omega)).trans ((hset_ne _ _ (by omega)).trans ((hset_ne _ _ (by omega)).trans ((hset_ne _ _ (by omega)).trans (hset_eq _ _ _))))), ((hset_ne _ _ (by omega)).trans ((hset_ne _ _ (by omega)).trans (hset_eq _ _ _))), ((hset_ne _ _ (by omega)).trans ((hset_ne _ _ (by omega)).trans ((hset_ne _ _ (by omega)).trans (hset_eq _ _ _)))), (fun i q1 q2 => by
                                          have q3 : i < sCu S + 1 := q2
                                          show va_up gT cu.toNat t i.toNat = iup (sT S) (sCu S) t i ∧ va_up gD cu.toNat dd i.toNat = iup (sD S) (sCu S) dd i ∧ va_up gC cu.toNat c i.toNat = iup (sC S) (sCu S) c i ∧ va_up gK cu.toNat (kindS t dd c (fun j : Nat => H j)) i.toNat = kindS (iup (sT S) (sCu S) t i) (iup (sD S) (sCu S) dd i) (iup (sC S) (sCu S) c i) (iup (sA S) (sCu S) (fun k : Nat => H k) i) ∧ ∀ t' : Int, 0 ≤ t' → t' < iup (sT S) (sCu S) t i + iup (sD S) (sCu S) dd i → ga (300 * i + t').toNat = iup (sA S) (sCu S) (fun k : Nat => H k) i t'.toNat
                                          by_cases q : i = cu
                                          · rw [q, ← e_cu]
                                            refine ⟨by rw [va_up_self, iup_self], by rw [va_up_self, iup_self], by rw [va_up_self, iup_self], by rw [va_up_self, iup_self, iup_self, iup_self, iup_self], fun t' r1 r2 => ?_⟩
                                            rw [iup_self, iup_self] at r2
                                            rw [iup_self, hga t' r1 (by omega)]
                                            show H t' = H ((t'.toNat : Nat) : Int)
                                            rw [show ((t'.toNat : Nat) : Int) = t' by omega]
                                          · have q4 : i ≠ sCu S := by omega
                                            have hz := hcu i q1 (by omega)
                                            refine ⟨by rw [va_up_ne _ _ (by omega), iup_ne _ _ q4]; exact hz.1, by rw [va_up_ne _ _ (by omega), iup_ne _ _ q4]; exact hz.2.1, by rw [va_up_ne _ _ (by omega), iup_ne _ _ q4]; exact hz.2.2.1, by rw [va_up_ne _ _ (by omega), iup_ne _ _ q4, iup_ne _ _ q4, iup_ne _ _ q4, iup_ne _ _ q4]; exact hz.2.2.2.1, fun t' r1 r2 => ?_⟩
                                            rw [iup_ne _ _ q4, iup_ne _ _ q4] at r2
                                            rw [iup_ne _ _ q4, hgo _ (by have := (s3 i q1 (by omega)).2.1; have := (s3 i q1 (by omega)).2.2.2.1; omega)]
                                            exact hz.2.2.2.2 t' r1 r2)⟩, ⟨fr, ((hset_ne _ _ (by omega)).trans ((hset_ne _ _ (by omega)).trans ((hset_ne _ _ (by omega)).trans ((hset_ne _ _ (by omega)).trans ((hset_ne _ _ (by omega)).trans ((hset_ne _ _ (by omega)).trans ((hset_ne _ _ (by omega)).trans hb6))))))), hrw⟩, ⟨sm, ((hset_ne _ _ (by omega)).trans ((hset_ne _ _ (by omega)).trans ((hset_ne _ _ (by omega)).trans ((hset_ne _ _ (by omega)).trans ((hset_ne _ _ (by omega)).trans ((hset_ne _ _ (by omega)).trans ((hset_ne _ _ (by omega)).trans hb7))))))), hsm⟩, ⟨g8, ((hset_ne _ _ (by omega)).trans ((hset_ne _ _ (by omega)).trans ((hset_ne _ _ (by omega)).trans ((hset_ne _ _ (by omega)).trans ((hset_ne _ _ (by omega)).trans ((hset_ne _ _ (by omega)).trans ((hset_ne _ _ (by omega)).trans hb8))))))), htl⟩, ⟨_, ((hset_ne _ _ (by omega)).trans ((hset_ne _ _ (by omega)).trans ((hset_ne _ _ (by omega)).trans ((hset_ne _ _ (by omega)).trans ((hset_ne _ _ (by omega)).trans ((hset_ne _ _ (by omega)).trans ((hset_ne _ _ (by omega)).trans hb)))))))⟩⟩)) (fun r1 h1 q1 => ?_)
                                obtain ⟨rfl, hCz, hFz⟩ := q1
                                exact x_ireturn dX10_settle_309 rfl (by omega) (by omega) (outM (by rw [mkO_yes ⟨hper, hcan, hinb⟩, e_cu]; rfl) hCz (MFr.trans (MFr.set (MFr.set (MFr.set (MFr.set (MFr.set (MFr.set (MFr.set MFr.refl (by omega) (by omega)) (by omega) (by omega)) (by omega) (by omega)) (by omega) (by omega)) (by omega) (by omega)) (by omega) (by omega)) (by omega) (by omega)) hFz))
                              · refine x_aload_n 0 dX10_settle_248 rfl rfl ?_
                                refine x_get 5 dX10_settle_249 fl_X10_23 ((hset_ne _ _ (by omega)).trans ((hset_ne _ _ (by omega)).trans ((hset_ne _ _ (by omega)).trans ((hset_ne _ _ (by omega)).trans hm)))) rfl ?_
                                refine x_sipush dX10_settle_252 (okI_c rfl) (by decide +kernel) ?_
                                refine x_iload 6 dX10_settle_255 rfl ?_
                                refine x_imul dX10_settle_257 (by unfold okI; omega) ?_
                                refine x_iload 7 dX10_settle_258 rfl ?_
                                refine x_iadd dX10_settle_260 (by unfold okI; omega) ?_
                                refine x_aload_n 0 dX10_settle_261 rfl rfl ?_
                                refine x_get 14 dX10_settle_262 fl_X10_39 ((hset_ne _ _ (by omega)).trans ((hset_ne _ _ (by omega)).trans ((hset_ne _ _ (by omega)).trans ((hset_ne _ _ (by omega)).trans hm)))) rfl ?_
                                refine x_iload 7 dX10_settle_265 rfl ?_
                                refine x_laload dX10_settle_267 ((hset_ne _ _ (by omega)).trans ((hset_ne _ _ (by omega)).trans ((hset_ne _ _ (by omega)).trans ((hset_ne _ _ (by omega)).trans hb)))) (by omega) (by omega) ?_
                                refine x_asJ (y := (H k)) (hv k (by omega) (by omega)) ?_
                                refine x_lastore dX10_settle_268 (hset_eq _ _ _) (by omega) (by omega) ?_
                                refine x_iinc 7 (L' := [(10, vI (k + 1)), (0, vA m), (1, vI d0), (2, vJ c0), (4, vI dd), (5, vJ c), (7, vI t), (9, vI cu)]) dX10_settle_269 rfl (by unfold okI; omega) (Nat.le_of_ble_eq_true rfl) rfl ?_
                                refine x_goto 238 dX10_settle_272 (by decide) ?_
                                exact EX.pick [1, 2, 3, 4, 5, 6, 7, 0] rfl (x_ash (hset_hset _ _ _ _) (ih_238 (k + 1) (va_up ga (300 * cu + k).toNat (H k)) (by omega) (by omega) (by omega) (fun j q1 q2 => by by_cases q : j = k; subst q; rw [va_up_self]; rw [va_up_ne _ _ (by omega)]; exact hga j q1 (by omega)) (fun n q => by rw [va_up_ne _ _ (by omega)]; exact hgo n q)))
                          exact EX.pick [2, 3, 4, 5, 6, 7, 1, 0] rfl (x_ash (hset_self ((hset_ne _ _ (by omega)).trans ((hset_ne _ _ (by omega)).trans ((hset_ne _ _ (by omega)).trans hb5)))).symm (loop_238 ((t + dd - (0 : Int)).toNat + 1) 0 gA (Nat.lt_succ_self _) (by omega) (by omega) (fun j q1 q2 => by omega) (fun n q => rfl)))
                        · refine x_aload_n 0 dX10_settle_195 rfl rfl ?_
                          refine x_bipush dX10_settle_196 (okI_c rfl) (by decide +kernel) ?_
                          refine x_callV [vI ((-4))] dX10_settle_198 kv_X10_58 rfl rfl hm (by omega) (Nat.le_of_ble_eq_true rfl) (by omega) (by omega) (k_X10_refuse (d := 0) (S := S)  (hM)) (fun r1 h1 q1 => ?_)
                          obtain ⟨rfl, hCz, hFz⟩ := q1
                          exact x_ireturn dX10_settle_201 rfl (by omega) (by omega) (outM (mkO_no (no_big hcan (fun z => (b2i_eq (P := (c ≤ 1000000000 ∧ ∀ u : Int, 0 ≤ u → u < k → H u ≤ 1000000000000)) (by rw [← hie2]; exact c_192)) ⟨z.1, fun u q1 q2 => Int.le_trans (hMo.2 u (t + dd - 1) q1 (by omega)) z.2⟩))) hCz (MFr.trans MFr.refl hFz))
                      · refine x_aload_n 0 dX10_settle_163 rfl rfl ?_
                        refine x_get 14 dX10_settle_164 fl_X10_39 hm rfl ?_
                        refine x_iload 7 dX10_settle_167 rfl ?_
                        refine x_laload dX10_settle_169 hb (by omega) (by omega) ?_
                        refine x_asJ (y := (H k)) (hv k (by omega) (by omega)) ?_
                        refine x_ldc2 (n := 1000000000000) dX10_settle_170 (okJ_c rfl) kc_X10_64 ?_
                        refine x_lc_gt 181 dX10_settle_173 dX10_settle_174 (by decide) (fun c_173 => ?_) (fun c_173 => ?_)
                        · refine x_iconst dX10_settle_181 (okI_c rfl) ?_
                          refine x_istore (L' := [(8, vI 0), (0, vA m), (1, vI d0), (2, vJ c0), (4, vI dd), (5, vJ c), (7, vI t), (9, vI k)]) dX10_settle_182 (Nat.le_of_ble_eq_true rfl) rfl ?_
                          refine x_iinc 7 (L' := [(9, vI (k + 1)), (8, vI 0), (0, vA m), (1, vI d0), (2, vJ c0), (4, vI dd), (5, vJ c), (7, vI t)]) dX10_settle_184 rfl (by unfold okI; omega) (Nat.le_of_ble_eq_true rfl) rfl ?_
                          refine x_goto 148 dX10_settle_187 (by decide) ?_
                          exact EX.pick [2, 3, 4, 5, 6, 7, 1, 0] rfl (ih_148 0 (k + 1)  (by omega) (by omega) (by omega) (b2i_f (fun z => by have := z.2 k (by omega) (by omega); omega)).symm)
                        · refine x_iconst dX10_settle_177 (okI_c rfl) ?_
                          refine x_goto 182 dX10_settle_178 (by decide) ?_
                          refine x_istore (L' := [(8, vI 1), (0, vA m), (1, vI d0), (2, vJ c0), (4, vI dd), (5, vJ c), (7, vI t), (9, vI k)]) dX10_settle_182 (Nat.le_of_ble_eq_true rfl) rfl ?_
                          refine x_iinc 7 (L' := [(9, vI (k + 1)), (8, vI 1), (0, vA m), (1, vI d0), (2, vJ c0), (4, vI dd), (5, vJ c), (7, vI t)]) dX10_settle_184 rfl (by unfold okI; omega) (Nat.le_of_ble_eq_true rfl) rfl ?_
                          refine x_goto 148 dX10_settle_187 (by decide) ?_
                          exact EX.pick [2, 3, 4, 5, 6, 7, 1, 0] rfl (ih_148 1 (k + 1)  (by omega) (by omega) (by omega) (b2i_t (by have z := b2i_ne (P := (c ≤ 1000000000 ∧ ∀ u : Int, 0 ≤ u → u < k → H u ≤ 1000000000000)) (by rw [← hie2]; exact c_160); exact ⟨z.1, fun u q1 q2 => by by_cases q : u = k; subst q; omega; exact z.2 u q1 (by omega)⟩)).symm)
                exact EX.pick [1, 2, 3, 4, 5, 6, 7, 0] rfl (loop_148 ((t + dd - (0 : Int)).toNat + 1) ie 0  (Nat.lt_succ_self _) (by omega) (by omega) (by rw [hie]; exact b2i_congr ⟨fun z => ⟨z, fun u q1 q2 => by omega⟩, fun z => z.1⟩))
              refine x_sipush dX10_settle_78 (okI_c rfl) (by decide +kernel) ?_
              refine x_istore (L' := [(7, vI 200), (5, vJ c), (0, vA m), (1, vI d0), (2, vJ c0), (4, vI dd)]) dX10_settle_81 (Nat.le_of_ble_eq_true rfl) rfl ?_
              have loop_83 : ∀ (k_83 : Nat) (t : Int) , (t).toNat < k_83 → (0 ≤ t) → (t ≤ 200) → (Per H t dd c) → EX G mX10_settle d 0 0 (MOut m b1 b2 b3 b4 b5 b6 b7 b8 b9 lo hi h vI (mkO H d0 c0 S)) 83 [(0, vA m), (1, vI d0), (2, vJ c0), (4, vI dd), (5, vJ c), (7, vI t)] [] h 0 0 := by
                intro k_83
                induction k_83 with
                | zero => intro t hm; exact absurd hm (Nat.not_lt_zero _)
                | succ k_83 ih_83 =>
                  intro t hm_83 ht0 ht2 hpt
                  refine x_iload 5 dX10_settle_83 rfl ?_
                  refine x_if_le 122 dX10_settle_85 (by decide) (fun c_85 => ?_) (fun c_85 => ?_)
                  · refine x_iload 3 dX10_settle_122 rfl ?_
                    refine x_bipush dX10_settle_124 (okI_c rfl) (by decide +kernel) ?_
                    refine x_icmp_gt 142 dX10_settle_126 (by decide) (fun c_126 => (by exfalso; omega)) (fun c_126 => ?_)
                    refine x_lload 4 dX10_settle_129 rfl ?_
                    refine x_ldc2 (n := 1000000000) dX10_settle_131 (okJ_c rfl) kc_X10_62 ?_
                    refine x_lc_gt 142 dX10_settle_134 dX10_settle_135 (by decide) (fun c_134 => ?_) (fun c_134 => ?_)
                    · refine x_iconst dX10_settle_142 (okI_c rfl) ?_
                      refine x_istore (L' := [(8, vI 0), (0, vA m), (1, vI d0), (2, vJ c0), (4, vI dd), (5, vJ c), (7, vI t)]) dX10_settle_143 (Nat.le_of_ble_eq_true rfl) rfl ?_
                      exact EX.pick [1, 2, 3, 4, 5, 6, 0] rfl (cut_145 t 0 (by omega) (by omega) (show Canon H t dd c from ⟨by omega, ht2, by omega, hpt, (by first | exact Or.inl (by omega) | exact Or.inr c_112), hno⟩) (b2i_f (by omega)).symm)
                    · refine x_iconst dX10_settle_138 (okI_c rfl) ?_
                      refine x_goto 143 dX10_settle_139 (by decide) ?_
                      refine x_istore (L' := [(8, vI 1), (0, vA m), (1, vI d0), (2, vJ c0), (4, vI dd), (5, vJ c), (7, vI t)]) dX10_settle_143 (Nat.le_of_ble_eq_true rfl) rfl ?_
                      exact EX.pick [1, 2, 3, 4, 5, 6, 0] rfl (cut_145 t 1 (by omega) (by omega) (show Canon H t dd c from ⟨by omega, ht2, by omega, hpt, (by first | exact Or.inl (by omega) | exact Or.inr c_112), hno⟩) (b2i_t (by omega)).symm)
                  · refine x_aload_n 0 dX10_settle_88 rfl rfl ?_
                    refine x_get 14 dX10_settle_89 fl_X10_39 hm rfl ?_
                    refine x_iload 5 dX10_settle_92 rfl ?_
                    refine x_iconst dX10_settle_94 (okI_c rfl) ?_
                    refine x_isub dX10_settle_95 (by unfold okI; omega) ?_
                    refine x_iload 3 dX10_settle_96 rfl ?_
                    refine x_iadd dX10_settle_98 (by unfold okI; omega) ?_
                    refine x_laload dX10_settle_99 hb (by omega) (by omega) ?_
                    refine x_asJ (y := (H (t - 1 + dd))) (hv (t - 1 + dd) (by omega) (by omega)) ?_
                    refine x_aload_n 0 dX10_settle_100 rfl rfl ?_
                    refine x_get 14 dX10_settle_101 fl_X10_39 hm rfl ?_
                    refine x_iload 5 dX10_settle_104 rfl ?_
                    refine x_iconst dX10_settle_106 (okI_c rfl) ?_
                    refine x_isub dX10_settle_107 (by unfold okI; omega) ?_
                    refine x_laload dX10_settle_108 hb (by omega) (by omega) ?_
                    refine x_asJ (y := (H (t - 1))) (hv (t - 1) (by omega) (by omega)) ?_
                    refine x_lload 4 dX10_settle_109 rfl ?_
                    refine x_ladd dX10_settle_111 (by have := bH (t - 1) (by omega) (by omega); unfold okJ; omega) ?_
                    refine x_lc_ne 122 dX10_settle_112 dX10_settle_113 (by decide) (fun c_112 => ?_) (fun c_112 => ?_)
                    · refine x_iload 3 dX10_settle_122 rfl ?_
                      refine x_bipush dX10_settle_124 (okI_c rfl) (by decide +kernel) ?_
                      refine x_icmp_gt 142 dX10_settle_126 (by decide) (fun c_126 => (by exfalso; omega)) (fun c_126 => ?_)
                      refine x_lload 4 dX10_settle_129 rfl ?_
                      refine x_ldc2 (n := 1000000000) dX10_settle_131 (okJ_c rfl) kc_X10_62 ?_
                      refine x_lc_gt 142 dX10_settle_134 dX10_settle_135 (by decide) (fun c_134 => ?_) (fun c_134 => ?_)
                      · refine x_iconst dX10_settle_142 (okI_c rfl) ?_
                        refine x_istore (L' := [(8, vI 0), (0, vA m), (1, vI d0), (2, vJ c0), (4, vI dd), (5, vJ c), (7, vI t)]) dX10_settle_143 (Nat.le_of_ble_eq_true rfl) rfl ?_
                        exact EX.pick [1, 2, 3, 4, 5, 6, 0] rfl (cut_145 t 0 (by omega) (by omega) (show Canon H t dd c from ⟨by omega, ht2, by omega, hpt, (by first | exact Or.inl (by omega) | exact Or.inr c_112), hno⟩) (b2i_f (by omega)).symm)
                      · refine x_iconst dX10_settle_138 (okI_c rfl) ?_
                        refine x_goto 143 dX10_settle_139 (by decide) ?_
                        refine x_istore (L' := [(8, vI 1), (0, vA m), (1, vI d0), (2, vJ c0), (4, vI dd), (5, vJ c), (7, vI t)]) dX10_settle_143 (Nat.le_of_ble_eq_true rfl) rfl ?_
                        exact EX.pick [1, 2, 3, 4, 5, 6, 0] rfl (cut_145 t 1 (by omega) (by omega) (show Canon H t dd c from ⟨by omega, ht2, by omega, hpt, (by first | exact Or.inl (by omega) | exact Or.inr c_112), hno⟩) (b2i_t (by omega)).symm)
                    · refine x_iinc 5 (L' := [(7, vI (t + (-1))), (0, vA m), (1, vI d0), (2, vJ c0), (4, vI dd), (5, vJ c)]) dX10_settle_116 rfl (by unfold okI; omega) (Nat.le_of_ble_eq_true rfl) rfl ?_
                      refine x_goto 83 dX10_settle_119 (by decide) ?_
                      exact EX.pick [1, 2, 3, 4, 5, 0] rfl (ih_83 (t + (-1))  (by omega) (by omega) (by omega) (by rw [show t + -1 = t - 1 by omega]; exact hpt.one c_112))
              exact EX.pick [2, 3, 4, 5, 1, 0] rfl (loop_83 (((200 : Int)).toNat + 1) 200  (Nat.lt_succ_self _) (by omega) (by omega) (by rw [e_c]; exact hpd))
            · have p_59 := b2i_eq c_59
              refine x_iinc 3 (L' := [(4, vI (dd + 1)), (0, vA m), (1, vI d0), (2, vJ c0)]) dX10_settle_62 rfl (by unfold okI; omega) (Nat.le_of_ble_eq_true rfl) rfl ?_
              refine x_goto 22 dX10_settle_65 (by decide) ?_
              have hnd : ∀ C' : Int, ¬ Per H 200 dd C' := fun C' z => by
                have w := step_of hper hd0 he1 hno z
                first | exact absurd w.1 c_26 | exact absurd w.2.1 c_38 | exact p_59 (fun t q1 _ => by rw [w.2.2]; exact z t q1)
              have hlt : dd < d0 := by
                rcases Int.lt_or_le dd d0 with q | q
                · exact q
                · rw [show dd = d0 by omega] at hnd; exact absurd hper (hnd c0)
              exact EX.pick [1, 2, 3, 0] rfl (ih_22 (dd + 1)  (by omega) (by omega) (by omega) (fun u C' q1 q2 => by by_cases q : u = dd; subst q; exact hnd C'; exact hno u C' q1 (by omega)))
    exact EX.pick [1, 2, 3, 0] rfl (loop_22 ((d0 - (1 : Int)).toNat + 1) 1  (Nat.lt_succ_self _) (by omega) (by omega) (fun u C' q1 q2 => by omega))
  · have p_9 := b2i_eq c_9
    refine x_aload_n 0 dX10_settle_12 rfl rfl ?_
    refine x_bipush dX10_settle_13 (okI_c rfl) (by decide +kernel) ?_
    refine x_callV [vI ((-4))] dX10_settle_15 kv_X10_58 rfl rfl hm (by omega) (Nat.le_of_ble_eq_true rfl) (by omega) (by omega) (k_X10_refuse (d := 0) (S := S)  (hM)) (fun r1 h1 q1 => ?_)
    obtain ⟨rfl, hCz, hFz⟩ := q1
    exact x_ireturn dX10_settle_18 rfl (by omega) (by omega) (outM (mkO_no (fun hp => absurd (fun t q1 _ => hp t q1) p_9)) hCz (MFr.trans MFr.refl hFz))
