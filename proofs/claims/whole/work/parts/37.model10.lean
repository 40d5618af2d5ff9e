/-! ===== FlowCurvesModel: curve ===== -/
theorem row_bnd {len st gn : Int} {w : Nat → Int} (h1 : 1 ≤ st) (h2 : st ≤ len) (h3 : len ≤ 300) (h4 : 0 ≤ gn) (h5 : gn ≤ 1000000000) (hb : ∀ i : Int, 0 ≤ i → i < len → 0 ≤ w i.toNat ∧ w i.toNat ≤ 3000000000000) : Bnd (cval (len - st) st gn w) 760 4000000000000000 := fun t q1 q2 => by
  by_cases q : t < len - st + st
  · rw [cval_lt q]
    have := hb t q1 (by omega)
    exact ⟨this.1, by omega⟩
  · rw [cval, if_neg q]
    have m0 := Int.emod_nonneg (t - (len - st)) (show st ≠ 0 by omega)
    have m1 := Int.emod_lt_of_pos (t - (len - st)) (show 0 < st by omega)
    have d0 := divB (x := t - (len - st)) (y := st) (by omega) (by omega)
    have := hb (len - st + (t - (len - st)) % st) (by omega) (by omega)
    have := mulB (x := (t - (len - st)) / st) (y := gn) d0.1 h4 (X := 760) (Y := 1000000000) (by omega) h5
    exact ⟨by omega, by omega⟩
theorem curve_eq {st gn k : Int} {S S2 : aS} (hS : 0 ≤ sCu S) (h : mkO (cval (sRn S - st) st gn (sRw S)) st gn S = (k, S2)) : (match mkT (cval (sRn S - st) st gn (sRw S)) st gn with | none => rf (-4) S | some (T, D, C) => (sCu S, sRow 0 (sRw S) (sAdd T D C (cval (sRn S - st) st gn (sRw S)) S))) = if k < 0 then (k, S2) else (k, sRow 0 (sRw S2) S2) := by
  unfold mkO at h
  cases hm : mkT (cval (sRn S - st) st gn (sRw S)) st gn with
  | none =>
    rw [hm] at h
    have h1 : (-4 : Int) = k := congrArg Prod.fst h
    have h2 : sLa (-4) S = S2 := congrArg Prod.snd h
    subst h1; subst h2
    rw [if_pos (by omega)]; rfl
  | some x =>
    obtain ⟨T, D, C⟩ := x
    rw [hm] at h
    have h1 : sCu S = k := congrArg Prod.fst h
    have h2 : sAdd T D C (cval (sRn S - st) st gn (sRw S)) S = S2 := congrArg Prod.snd h
    subst h1; subst h2
    rw [if_neg (by omega)]; rfl
theorem MRel.row0 {m b1 b2 b3 b4 b5 b6 b7 b8 b9 lo hi : Nat} {S : aS} {h : aH} (hM : MRel m b1 b2 b3 b4 b5 b6 b7 b8 b9 lo hi S h) : MRel m b1 b2 b3 b4 b5 b6 b7 b8 b9 lo hi (sRow 0 (sRw S) S) (hset h m (eO 9 [vI ((sCu S)), vA b1, vA b2, vA b3, vA b4, vA b5, vI ((sMu S)), vA b6, vI 0, vA b7, vI ((sSn S)), vI ((sSv S)), vA b8, vI ((sLt S)), vA b9])) := by
  obtain ⟨⟨o0, o1, o2, o3, o4, o5, o6, o7, o8, o9, oA⟩, hm, ⟨gT, gD, gC, gK, gA, hb1, hb2, hb3, hb4, hb5, hcu⟩, ⟨fr, hb6, hrw⟩, ⟨sm, hb7, hsm⟩, ⟨g8, hb8, htl⟩, ⟨gw, hb9⟩⟩ := id hM
  exact ⟨⟨o0, o1, o2, o3, o4, o5, o6, o7, o8, o9, oA⟩, (hset_eq _ _ _), ⟨gT, gD, gC, gK, gA, ((hset_ne _ _ (by omega)).trans hb1), ((hset_ne _ _ (by omega)).trans hb2), ((hset_ne _ _ (by omega)).trans hb3), ((hset_ne _ _ (by omega)).trans hb4), ((hset_ne _ _ (by omega)).trans hb5), hcu⟩, ⟨fr, ((hset_ne _ _ (by omega)).trans hb6), (fun t q1 q2 => by have q3 : t < 0 := q2; omega)⟩, ⟨sm, ((hset_ne _ _ (by omega)).trans hb7), hsm⟩, ⟨g8, ((hset_ne _ _ (by omega)).trans hb8), htl⟩, ⟨_, ((hset_ne _ _ (by omega)).trans hb9)⟩⟩
theorem MRel.row1 {m b1 b2 b3 b4 b5 b6 b7 b8 b9 lo hi : Nat} {S : aS} {h : aH} (hM : MRel m b1 b2 b3 b4 b5 b6 b7 b8 b9 lo hi S h) : MRel m b1 b2 b3 b4 b5 b6 b7 b8 b9 lo hi S (hset h m (eO 9 [vI ((sCu S)), vA b1, vA b2, vA b3, vA b4, vA b5, vI ((sMu S)), vA b6, vI ((sRn S)), vA b7, vI ((sSn S)), vI ((sSv S)), vA b8, vI ((sLt S)), vA b9])) := by
  have e := hset_self hM.2.1
  rw [e]; exact hM
def RwU (w : Nat → Int) (t : Int) : Prop := ∀ i : Int, 0 ≤ i → i + 1 < t → w i.toNat ≤ w (i + 1).toNat
theorem RwU.one {w : Nat → Int} {t : Int} (h : RwU w t) (h1 : 1 ≤ t) (k : w (t - 1).toNat ≤ w t.toNat) : RwU w (t + 1) := fun i q1 q2 => by
  by_cases q : i = t - 1
  · subst q; rw [show t - 1 + 1 = t by omega]; exact k
  · exact h i q1 (by omega)
theorem RwU.at' {w : Nat → Int} {t : Int} (h : RwU w (t + 1)) (h1 : 1 ≤ t) : w (t - 1).toNat ≤ w t.toNat := by
  have := h (t - 1) (by omega) (by omega)
  rw [show t - 1 + 1 = t by omega] at this; exact this
set_option maxRecDepth 100000 in
set_option maxHeartbeats 4000000 in
theorem k_X10_curve {G : aG} {d : Nat} (hd : 5 ≤ d) {m b1 b2 b3 b4 b5 b6 b7 b8 b9 lo hi : Nat} {S : aS} {nc : Nat} {h : aH} (hM : MRel m b1 b2 b3 b4 b5 b6 b7 b8 b9 lo hi S h) (hS : SOk nc S) {st : Int} {gn : Int} : MC G mX10_curve d 0 0 [vA m, vI st, vI gn] h (MOut m b1 b2 b3 b4 b5 b6 b7 b8 b9 lo hi h vI (oCurve st gn S)) := by
  obtain ⟨⟨o0, o1, o2, o3, o4, o5, o6, o7, o8, o9, oA⟩, hm, ⟨gT, gD, gC, gK, gA, hb1, hb2, hb3, hb4, hb5, hcu⟩, ⟨fr, hb6, hrw⟩, ⟨sm, hb7, hsm⟩, ⟨g8, hb8, htl⟩, ⟨gw, hb9⟩⟩ := id hM
  obtain ⟨⟨s1, s2⟩, s3, ⟨s4, s5⟩, ⟨s6, s7, s8⟩, s9, ⟨s10, s11⟩, s12⟩ := id hS
  refine MC.of (by decide) (Nat.le_of_ble_eq_true rfl) (fun ok okh => ?_)
  show EX G mX10_curve d 0 0 _ 0 [(0, vA m), (1, vI st), (2, vI gn)] [] h 0 0
  refine x_iload_n 1 dX10_curve_0 rfl rfl ?_
  refine x_i2l dX10_curve_1 ?_
  refine x_lconst (x := 1) dX10_curve_2 (okJ_c rfl) rfl ?_
  refine x_ldc2 (n := 60) dX10_curve_3 (okJ_c rfl) kc_X10_85 ?_
  refine x_callS [vJ st, vJ 1, vJ 60] dX10_curve_6 ks_X10_50 rfl rfl (by omega) (Nat.le_of_ble_eq_true rfl) (by omega) (by omega) (k_X10_in (d := 0)) (after_ret ?_)
  refine x_if_eq 24 dX10_curve_9 (by decide) (fun c_9 => ?_) (fun c_9 => ?_)
  · have p_9 := b2i_eq c_9
    refine x_aload_n 0 dX10_curve_24 rfl rfl ?_
    refine x_iconst dX10_curve_25 (okI_c rfl) ?_
    refine x_callV [vI ((-1))] dX10_curve_26 kv_X10_58 rfl rfl hm (by omega) (Nat.le_of_ble_eq_true rfl) (by omega) (by omega) (k_X10_refuse (d := 0) (S := S)  (hM)) (fun r1 h1 q1 => ?_)
    obtain ⟨rfl, hCz, hFz⟩ := q1
    exact x_ireturn dX10_curve_29 rfl (by omega) (by omega) (outM (by rw [oCurve, if_pos (by omega)]; rfl) hCz (MFr.trans MFr.refl hFz))
  · have p_9 := b2i_ne c_9
    refine x_iload_n 2 dX10_curve_12 rfl rfl ?_
    refine x_i2l dX10_curve_13 ?_
    refine x_lconst (x := 0) dX10_curve_14 (okJ_c rfl) rfl ?_
    refine x_ldc2 (n := 1000000000) dX10_curve_15 (okJ_c rfl) kc_X10_62 ?_
    refine x_callS [vJ gn, vJ 0, vJ 1000000000] dX10_curve_18 ks_X10_50 rfl rfl (by omega) (Nat.le_of_ble_eq_true rfl) (by omega) (by omega) (k_X10_in (d := 0)) (after_ret ?_)
    refine x_if_ne 30 dX10_curve_21 (by decide) (fun c_21 => ?_) (fun c_21 => ?_)
    · have p_21 := b2i_ne c_21
      refine x_aload_n 0 dX10_curve_30 rfl rfl ?_
      refine x_get 8 dX10_curve_31 fl_X10_76 hm rfl ?_
      refine x_iload_n 1 dX10_curve_34 rfl rfl ?_
      refine x_icmp_lt 42 dX10_curve_35 (by decide) (fun c_35 => ?_) (fun c_35 => ?_)
      · refine x_iconst dX10_curve_42 (okI_c rfl) ?_
        refine x_istore_n (L' := [(3, vI 0), (0, vA m), (1, vI st), (2, vI gn)]) dX10_curve_43 rfl (Nat.le_of_ble_eq_true rfl) rfl ?_
        refine x_iconst dX10_curve_44 (okI_c rfl) ?_
        refine x_istore (L' := [(4, vI 1), (3, vI 0), (0, vA m), (1, vI st), (2, vI gn)]) dX10_curve_45 (Nat.le_of_ble_eq_true rfl) rfl ?_
        have loop_47 : ∀ (k_47 : Nat) (ie : Int) (k : Int) , (sRn S - k).toNat < k_47 → (1 ≤ k) → (k ≤ sRn S ∨ k = 1) → (ie = b2i (st ≤ sRn S ∧ RwU (sRw S) k)) → EX G mX10_curve d 0 0 (MOut m b1 b2 b3 b4 b5 b6 b7 b8 b9 lo hi h vI (oCurve st gn S)) 47 [(0, vA m), (1, vI st), (2, vI gn), (3, vI ie), (4, vI k)] [] h 0 0 := by
          intro k_47
          induction k_47 with
          | zero => intro ie k hm; exact absurd hm (Nat.not_lt_zero _)
          | succ k_47 ih_47 =>
            intro ie k hm_47 hk1 hkn hie
            refine x_iload 4 dX10_curve_47 rfl ?_
            refine x_aload_n 0 dX10_curve_49 rfl rfl ?_
            refine x_get 8 dX10_curve_50 fl_X10_76 hm rfl ?_
            refine x_icmp_ge 92 dX10_curve_53 (by decide) (fun c_53 => ?_) (fun c_53 => ?_)
            · refine x_iload_n 3 dX10_curve_92 rfl rfl ?_
              refine x_if_eq 125 dX10_curve_93 (by decide) (fun c_93 => ?_) (fun c_93 => ?_)
              · have hbad : ¬ RowGood (sRn S) (sRw S) st gn := fun z => by
                  first | (have := z.2.2; omega) | exact (b2i_eq (P := (st ≤ sRn S ∧ RwU (sRw S) k)) (by rw [← hie]; exact c_93)) ⟨z.1, fun i q1 q2 => z.2.1 i q1 (by omega)⟩
                refine x_aload_n 0 dX10_curve_125 rfl rfl ?_
                refine x_bipush dX10_curve_126 (okI_c rfl) (by decide +kernel) ?_
                refine x_callV [vI ((-2))] dX10_curve_128 kv_X10_58 rfl rfl hm (by omega) (Nat.le_of_ble_eq_true rfl) (by omega) (by omega) (k_X10_refuse (d := 0) (S := S)  (hM)) (fun r1 h1 q1 => ?_)
                obtain ⟨rfl, hCz, hFz⟩ := q1
                exact x_ireturn dX10_curve_131 rfl (by omega) (by omega) (outM (by rw [oCurve, if_neg (by omega), if_neg hbad]; rfl) hCz (MFr.trans MFr.refl hFz))
              · have hz := (b2i_ne (P := (st ≤ sRn S ∧ RwU (sRw S) k)) (by rw [← hie]; exact c_93))
                have hz1 := hz.1
                refine x_aload_n 0 dX10_curve_96 rfl rfl ?_
                refine x_get 7 dX10_curve_97 fl_X10_26 hm rfl ?_
                refine x_aload_n 0 dX10_curve_100 rfl rfl ?_
                refine x_get 8 dX10_curve_101 fl_X10_76 hm rfl ?_
                refine x_iload_n 1 dX10_curve_104 rfl rfl ?_
                refine x_isub dX10_curve_105 (by unfold okI; omega) ?_
                refine x_laload dX10_curve_106 hb6 (by omega) (by omega) ?_
                refine x_asJ (y := (sRw S (sRn S - st).toNat)) (hrw (sRn S - st) (by omega) (by omega)) ?_
                refine x_iload_n 2 dX10_curve_107 rfl rfl ?_
                refine x_i2l dX10_curve_108 ?_
                refine x_ladd dX10_curve_109 (by have := s8 (sRn S - st) (by omega) (by omega); unfold okJ; omega) ?_
                refine x_aload_n 0 dX10_curve_110 rfl rfl ?_
                refine x_get 7 dX10_curve_111 fl_X10_26 hm rfl ?_
                refine x_aload_n 0 dX10_curve_114 rfl rfl ?_
                refine x_get 8 dX10_curve_115 fl_X10_76 hm rfl ?_
                refine x_iconst dX10_curve_118 (okI_c rfl) ?_
                refine x_isub dX10_curve_119 (by unfold okI; omega) ?_
                refine x_laload dX10_curve_120 hb6 (by omega) (by omega) ?_
                refine x_asJ (y := (sRw S (sRn S - 1).toNat)) (hrw (sRn S - 1) (by omega) (by omega)) ?_
                refine x_lc_ge 132 dX10_curve_121 dX10_curve_122 (by decide) (fun c_121 => ?_) (fun c_121 => ?_)
                · have hgood : RowGood (sRn S) (sRw S) st gn := ⟨hz.1, fun i q1 q2 => by first | exact hz.2 i q1 (by omega) | exact absurd c_57 c_93, by omega⟩
                  have hro : RowOk (sRn S) st gn (sRw S) := ⟨by omega, by omega, hgood.1, s7, by omega, by omega, fun i q1 q2 => by have := s8 i q1 q2; omega, hgood.2.1, hgood.2.2⟩
                  have hg1 := hgood.1
                  refine x_aload_n 0 dX10_curve_132 rfl rfl ?_
                  refine x_get 0 dX10_curve_133 fl_X10_47 hm rfl ?_
                  refine x_bipush dX10_curve_136 (okI_c rfl) (by decide +kernel) ?_
                  refine x_icmp_ne 148 dX10_curve_138 (by decide) (fun c_138 => ?_) (fun c_138 => ?_)
                  · refine x_iconst dX10_curve_148 (okI_c rfl) ?_
                    refine x_istore (L' := [(4, vI 0), (0, vA m), (1, vI st), (2, vI gn), (3, vI ie)]) dX10_curve_149 (Nat.le_of_ble_eq_true rfl) rfl ?_
                    have loop_151 : ∀ (k_151 : Nat) (t : Int) (gv : Nat → Int), (760 - t).toNat < k_151 → (0 ≤ t) → (t ≤ 760) → (Tells gv ((cval (sRn S - st) st gn (sRw S))) t) → EX G mX10_curve d 0 0 (MOut m b1 b2 b3 b4 b5 b6 b7 b8 b9 lo hi h vI (oCurve st gn S)) 151 [(0, vA m), (1, vI st), (2, vI gn), (4, vI t)] [] (hset h b9 (eJ 760 gv)) 0 0 := by
                      intro k_151
                      induction k_151 with
                      | zero => intro t gv hm; exact absurd hm (Nat.not_lt_zero _)
                      | succ k_151 ih_151 =>
                        intro t gv hm_151 ht0 ht1 htl9
                        refine x_iload 3 dX10_curve_151 rfl ?_
                        refine x_sipush dX10_curve_153 (okI_c rfl) (by decide +kernel) ?_
                        refine x_icmp_ge 203 dX10_curve_156 (by decide) (fun c_156 => ?_) (fun c_156 => ?_)
                        · refine x_aload_n 0 dX10_curve_203 rfl rfl ?_
                          refine x_iload_n 1 dX10_curve_204 rfl rfl ?_
                          refine x_iload_n 2 dX10_curve_205 rfl rfl ?_
                          refine x_i2l dX10_curve_206 ?_
                          refine x_callV [vI st, vJ gn] dX10_curve_207 kv_X10_87 rfl rfl ((hset_ne _ _ (by omega)).trans hm) (by omega) (Nat.le_of_ble_eq_true rfl) (by omega) (by omega) (k_X10_settle (d := 1) (by omega) (hM.made gv) hS (hset_eq _ _ _) (H := (cval (sRn S - st) st gn (sRw S))) (by rw [show (760 : Int) = t by omega]; exact htl9) (row_bnd (by omega) hgood.1 s7 (by omega) (by omega) (fun i q1 q2 => by have := s8 i q1 q2; omega)) (row_M hro) (d0 := st) (c0 := gn) (by omega) (by omega) (by omega) (by omega) (by omega) (fun q => round_of (fr := 300) (by omega) (Per.later (fun u hu => cval_per (by omega) hu) (by omega)) q)) (fun r9 h9 q9 => ?_)
                          generalize hres : mkO (cval (sRn S - st) st gn (sRw S)) st gn S = res at q9
                          obtain ⟨k2, S2⟩ := res
                          obtain ⟨rfl, hCz, hFz⟩ := q9
                          have hq := curve_eq s1 hres
                          have hFz := MFr.trans (MFr.set MFr.refl (b := b9) (e := eJ 760 gv) (by omega) (by omega)) hFz
                          · show EX G mX10_curve d 0 0 _ _ _ [vI k2] _ _ _
                            refine x_istore (L' := [(4, vI k2), (0, vA m), (1, vI st), (2, vI gn)]) dX10_curve_210 (Nat.le_of_ble_eq_true rfl) rfl ?_
                            refine x_aload_n 1 dX10_curve_212 rfl rfl ?_
                            refine x_iload 0 dX10_curve_213 rfl ?_
                            refine x_if_lt 222 dX10_curve_215 (by decide) (fun c_215 => ?_) (fun c_215 => ?_)
                            · refine x_aload_n 1 dX10_curve_222 rfl rfl ?_
                              refine x_get 8 dX10_curve_223 fl_X10_76 hCz.2.1 rfl ?_
                              refine x_put 8 dX10_curve_226 pu_X10_76 hCz.2.1 rfl rfl (Nat.le_of_ble_eq_true rfl) ?_
                              refine x_iload 0 dX10_curve_229 rfl ?_
                              exact x_ireturn dX10_curve_231 rfl (by decide) (by decide) (outM (S2 := S2) (by rw [oCurve, if_neg (by omega), if_pos hgood, if_neg (show ¬ 60 ≤ sCu S by omega)]; exact hq.trans (if_pos (show k2 < 0 by omega))) (MRel.row1 hCz) (MFr.trans hFz (MFr.set MFr.refl (by omega) (by omega))))
                            · refine x_iconst dX10_curve_218 (okI_c rfl) ?_
                              refine x_goto 226 dX10_curve_219 (by decide) ?_
                              refine x_put 8 dX10_curve_226 pu_X10_76 hCz.2.1 rfl rfl (Nat.le_of_ble_eq_true rfl) ?_
                              refine x_iload 0 dX10_curve_229 rfl ?_
                              exact x_ireturn dX10_curve_231 rfl (by decide) (by decide) (outM (S2 := sRow 0 (sRw S2) S2) (by rw [oCurve, if_neg (by omega), if_pos hgood, if_neg (show ¬ 60 ≤ sCu S by omega)]; exact hq.trans (if_neg (show ¬ k2 < 0 by omega))) (MRel.row0 hCz) (MFr.trans hFz (MFr.set MFr.refl (by omega) (by omega))))
                        · refine x_aload_n 0 dX10_curve_159 rfl rfl ?_
                          refine x_get 14 dX10_curve_160 fl_X10_39 ((hset_ne _ _ (by omega)).trans hm) rfl ?_
                          refine x_iload 3 dX10_curve_163 rfl ?_
                          refine x_iload 3 dX10_curve_165 rfl ?_
                          refine x_aload_n 0 dX10_curve_167 rfl rfl ?_
                          refine x_get 8 dX10_curve_168 fl_X10_76 ((hset_ne _ _ (by omega)).trans hm) rfl ?_
                          refine x_icmp_ge 184 dX10_curve_171 (by decide) (fun c_171 => ?_) (fun c_171 => ?_)
                          · have hbb : 0 ≤ (cval (sRn S - st) st gn (sRw S)) (t - st) ∧ (cval (sRn S - st) st gn (sRw S)) (t - st) ≤ 4000000000000000 := row_bnd (by omega) hgood.1 s7 (by omega) (by omega) (fun i q1 q2 => by have := s8 i q1 q2; omega) (t - st) (by omega) (by omega)
                            refine x_aload_n 0 dX10_curve_184 rfl rfl ?_
                            refine x_get 14 dX10_curve_185 fl_X10_39 ((hset_ne _ _ (by omega)).trans hm) rfl ?_
                            refine x_iload 3 dX10_curve_188 rfl ?_
                            refine x_iload_n 1 dX10_curve_190 rfl rfl ?_
                            refine x_isub dX10_curve_191 (by unfold okI; omega) ?_
                            refine x_laload dX10_curve_192 (hset_eq _ _ _) (by omega) (by omega) ?_
                            refine x_asJ (y := ((cval (sRn S - st) st gn (sRw S)) (t - st))) (htl9 (t - st) (by omega) (by omega)) ?_
                            refine x_iload_n 2 dX10_curve_193 rfl rfl ?_
                            refine x_i2l dX10_curve_194 ?_
                            refine x_ladd dX10_curve_195 (by unfold okJ; omega) ?_
                            refine x_lastore dX10_curve_196 (hset_eq _ _ _) (by omega) (by omega) ?_
                            refine x_iinc 3 (L' := [(4, vI (t + 1)), (0, vA m), (1, vI st), (2, vI gn)]) dX10_curve_197 rfl (by unfold okI; omega) (Nat.le_of_ble_eq_true rfl) rfl ?_
                            refine x_goto 151 dX10_curve_200 (by decide) ?_
                            exact EX.pick [1, 2, 3, 0] rfl (x_ash (hset_hset _ _ _ _) (ih_151 (t + 1) (va_up gv t.toNat ((((cval (sRn S - st) st gn (sRw S)) (t - st))) + gn)) (by omega) (by omega) (by omega) (by first | exact htl9.up ht0 (cval_lt (by omega)).symm | exact htl9.up ht0 (by have := cval_per (T := sRn S - st) (D := st) (C := gn) (am := sRw S) (t := t - st) (by omega) (by omega); rw [show t - st + st = t by omega] at this; exact this.symm))))
                          · refine x_aload_n 0 dX10_curve_174 rfl rfl ?_
                            refine x_get 7 dX10_curve_175 fl_X10_26 ((hset_ne _ _ (by omega)).trans hm) rfl ?_
                            refine x_iload 3 dX10_curve_178 rfl ?_
                            refine x_laload dX10_curve_180 ((hset_ne _ _ (by omega)).trans hb6) (by omega) (by omega) ?_
                            refine x_asJ (y := (sRw S (t).toNat)) (hrw (t) (by omega) (by omega)) ?_
                            refine x_goto 196 dX10_curve_181 (by decide) ?_
                            refine x_lastore dX10_curve_196 (hset_eq _ _ _) (by omega) (by omega) ?_
                            refine x_iinc 3 (L' := [(4, vI (t + 1)), (0, vA m), (1, vI st), (2, vI gn)]) dX10_curve_197 rfl (by unfold okI; omega) (Nat.le_of_ble_eq_true rfl) rfl ?_
                            refine x_goto 151 dX10_curve_200 (by decide) ?_
                            exact EX.pick [1, 2, 3, 0] rfl (x_ash (hset_hset _ _ _ _) (ih_151 (t + 1) (va_up gv t.toNat ((sRw S (t).toNat))) (by omega) (by omega) (by omega) (by first | exact htl9.up ht0 (cval_lt (by omega)).symm | exact htl9.up ht0 (by have := cval_per (T := sRn S - st) (D := st) (C := gn) (am := sRw S) (t := t - st) (by omega) (by omega); rw [show t - st + st = t by omega] at this; exact this.symm))))
                    exact EX.pick [1, 2, 3, 0] rfl (x_ash (hset_self hb9).symm (loop_151 ((760 - (0 : Int)).toNat + 1) 0 gw (Nat.lt_succ_self _) (by omega) (by omega) (fun u q1 q2 => by omega)))
                  · refine x_aload_n 0 dX10_curve_141 rfl rfl ?_
                    refine x_bipush dX10_curve_142 (okI_c rfl) (by decide +kernel) ?_
                    refine x_callV [vI ((-3))] dX10_curve_144 kv_X10_58 rfl rfl hm (by omega) (Nat.le_of_ble_eq_true rfl) (by omega) (by omega) (k_X10_refuse (d := 0) (S := S)  (hM)) (fun r1 h1 q1 => ?_)
                    obtain ⟨rfl, hCz, hFz⟩ := q1
                    exact x_ireturn dX10_curve_147 rfl (by omega) (by omega) (outM (by rw [oCurve, if_neg (by omega), if_pos hgood, if_pos (by omega)]; rfl) hCz (MFr.trans MFr.refl hFz))
                · have hbad : ¬ RowGood (sRn S) (sRw S) st gn := fun z => by
                    first | (have := z.2.2; omega) | exact (b2i_eq (P := (st ≤ sRn S ∧ RwU (sRw S) k)) (by rw [← hie]; exact c_93)) ⟨z.1, fun i q1 q2 => z.2.1 i q1 (by omega)⟩
                  refine x_aload_n 0 dX10_curve_125 rfl rfl ?_
                  refine x_bipush dX10_curve_126 (okI_c rfl) (by decide +kernel) ?_
                  refine x_callV [vI ((-2))] dX10_curve_128 kv_X10_58 rfl rfl hm (by omega) (Nat.le_of_ble_eq_true rfl) (by omega) (by omega) (k_X10_refuse (d := 0) (S := S)  (hM)) (fun r1 h1 q1 => ?_)
                  obtain ⟨rfl, hCz, hFz⟩ := q1
                  exact x_ireturn dX10_curve_131 rfl (by omega) (by omega) (outM (by rw [oCurve, if_neg (by omega), if_neg hbad]; rfl) hCz (MFr.trans MFr.refl hFz))
            · refine x_iload_n 3 dX10_curve_56 rfl rfl ?_
              refine x_if_eq 92 dX10_curve_57 (by decide) (fun c_57 => ?_) (fun c_57 => ?_)
              · refine x_iload_n 3 dX10_curve_92 rfl rfl ?_
                refine x_if_eq 125 dX10_curve_93 (by decide) (fun c_93 => ?_) (fun c_93 => ?_)
                · have hbad : ¬ RowGood (sRn S) (sRw S) st gn := fun z => by
                    first | (have := z.2.2; omega) | exact (b2i_eq (P := (st ≤ sRn S ∧ RwU (sRw S) k)) (by rw [← hie]; exact c_93)) ⟨z.1, fun i q1 q2 => z.2.1 i q1 (by omega)⟩
                  refine x_aload_n 0 dX10_curve_125 rfl rfl ?_
                  refine x_bipush dX10_curve_126 (okI_c rfl) (by decide +kernel) ?_
                  refine x_callV [vI ((-2))] dX10_curve_128 kv_X10_58 rfl rfl hm (by omega) (Nat.le_of_ble_eq_true rfl) (by omega) (by omega) (k_X10_refuse (d := 0) (S := S)  (hM)) (fun r1 h1 q1 => ?_)
                  obtain ⟨rfl, hCz, hFz⟩ := q1
                  exact x_ireturn dX10_curve_131 rfl (by omega) (by omega) (outM (by rw [oCurve, if_neg (by omega), if_neg hbad]; rfl) hCz (MFr.trans MFr.refl hFz))
                · have hz := (b2i_ne (P := (st ≤ sRn S ∧ RwU (sRw S) k)) (by rw [← hie]; exact c_93))
                  have hz1 := hz.1
                  refine x_aload_n 0 dX10_curve_96 rfl rfl ?_
                  refine x_get 7 dX10_curve_97 fl_X10_26 hm rfl ?_
                  refine x_aload_n 0 dX10_curve_100 rfl rfl ?_
                  refine x_get 8 dX10_curve_101 fl_X10_76 hm rfl ?_
                  refine x_iload_n 1 dX10_curve_104 rfl rfl ?_
                  refine x_isub dX10_curve_105 (by unfold okI; omega) ?_
                  refine x_laload dX10_curve_106 hb6 (by omega) (by omega) ?_
                  refine x_asJ (y := (sRw S (sRn S - st).toNat)) (hrw (sRn S - st) (by omega) (by omega)) ?_
                  refine x_iload_n 2 dX10_curve_107 rfl rfl ?_
                  refine x_i2l dX10_curve_108 ?_
                  refine x_ladd dX10_curve_109 (by have := s8 (sRn S - st) (by omega) (by omega); unfold okJ; omega) ?_
                  refine x_aload_n 0 dX10_curve_110 rfl rfl ?_
                  refine x_get 7 dX10_curve_111 fl_X10_26 hm rfl ?_
                  refine x_aload_n 0 dX10_curve_114 rfl rfl ?_
                  refine x_get 8 dX10_curve_115 fl_X10_76 hm rfl ?_
                  refine x_iconst dX10_curve_118 (okI_c rfl) ?_
                  refine x_isub dX10_curve_119 (by unfold okI; omega) ?_
                  refine x_laload dX10_curve_120 hb6 (by omega) (by omega) ?_
                  refine x_asJ (y := (sRw S (sRn S - 1).toNat)) (hrw (sRn S - 1) (by omega) (by omega)) ?_
                  refine x_lc_ge 132 dX10_curve_121 dX10_curve_122 (by decide) (fun c_121 => ?_) (fun c_121 => ?_)
                  · have hgood : RowGood (sRn S) (sRw S) st gn := ⟨hz.1, fun i q1 q2 => by first | exact hz.2 i q1 (by omega) | exact absurd c_57 c_93, by omega⟩
                    have hro : RowOk (sRn S) st gn (sRw S) := ⟨by omega, by omega, hgood.1, s7, by omega, by omega, fun i q1 q2 => by have := s8 i q1 q2; omega, hgood.2.1, hgood.2.2⟩
                    have hg1 := hgood.1
                    refine x_aload_n 0 dX10_curve_132 rfl rfl ?_
                    refine x_get 0 dX10_curve_133 fl_X10_47 hm rfl ?_
                    refine x_bipush dX10_curve_136 (okI_c rfl) (by decide +kernel) ?_
                    refine x_icmp_ne 148 dX10_curve_138 (by decide) (fun c_138 => ?_) (fun c_138 => ?_)
                    · refine x_iconst dX10_curve_148 (okI_c rfl) ?_
                      refine x_istore (L' := [(4, vI 0), (0, vA m), (1, vI st), (2, vI gn), (3, vI ie)]) dX10_curve_149 (Nat.le_of_ble_eq_true rfl) rfl ?_
                      have loop_151 : ∀ (k_151 : Nat) (t : Int) (gv : Nat → Int), (760 - t).toNat < k_151 → (0 ≤ t) → (t ≤ 760) → (Tells gv ((cval (sRn S - st) st gn (sRw S))) t) → EX G mX10_curve d 0 0 (MOut m b1 b2 b3 b4 b5 b6 b7 b8 b9 lo hi h vI (oCurve st gn S)) 151 [(0, vA m), (1, vI st), (2, vI gn), (4, vI t)] [] (hset h b9 (eJ 760 gv)) 0 0 := by
                        intro k_151
                        induction k_151 with
                        | zero => intro t gv hm; exact absurd hm (Nat.not_lt_zero _)
                        | succ k_151 ih_151 =>
                          intro t gv hm_151 ht0 ht1 htl9
                          refine x_iload 3 dX10_curve_151 rfl ?_
                          refine x_sipush dX10_curve_153 (okI_c rfl) (by decide +kernel) ?_
                          refine x_icmp_ge 203 dX10_curve_156 (by decide) (fun c_156 => ?_) (fun c_156 => ?_)
                          · refine x_aload_n 0 dX10_curve_203 rfl rfl ?_
                            refine x_iload_n 1 dX10_curve_204 rfl rfl ?_
                            refine x_iload_n 2 dX10_curve_205 rfl rfl ?_
                            refine x_i2l dX10_curve_206 ?_
                            refine x_callV [vI st, vJ gn] dX10_curve_207 kv_X10_87 rfl rfl ((hset_ne _ _ (by omega)).trans hm) (by omega) (Nat.le_of_ble_eq_true rfl) (by omega) (by omega) (k_X10_settle (d := 1) (by omega) (hM.made gv) hS (hset_eq _ _ _) (H := (cval (sRn S - st) st gn (sRw S))) (by rw [show (760 : Int) = t by omega]; exact htl9) (row_bnd (by omega) hgood.1 s7 (by omega) (by omega) (fun i q1 q2 => by have := s8 i q1 q2; omega)) (row_M hro) (d0 := st) (c0 := gn) (by omega) (by omega) (by omega) (by omega) (by omega) (fun q => round_of (fr := 300) (by omega) (Per.later (fun u hu => cval_per (by omega) hu) (by omega)) q)) (fun r9 h9 q9 => ?_)
                            generalize hres : mkO (cval (sRn S - st) st gn (sRw S)) st gn S = res at q9
                            obtain ⟨k2, S2⟩ := res
                            obtain ⟨rfl, hCz, hFz⟩ := q9
                            have hq := curve_eq s1 hres
                            have hFz := MFr.trans (MFr.set MFr.refl (b := b9) (e := eJ 760 gv) (by omega) (by omega)) hFz
                            · show EX G mX10_curve d 0 0 _ _ _ [vI k2] _ _ _
                              refine x_istore (L' := [(4, vI k2), (0, vA m), (1, vI st), (2, vI gn)]) dX10_curve_210 (Nat.le_of_ble_eq_true rfl) rfl ?_
                              refine x_aload_n 1 dX10_curve_212 rfl rfl ?_
                              refine x_iload 0 dX10_curve_213 rfl ?_
                              refine x_if_lt 222 dX10_curve_215 (by decide) (fun c_215 => ?_) (fun c_215 => ?_)
                              · refine x_aload_n 1 dX10_curve_222 rfl rfl ?_
                                refine x_get 8 dX10_curve_223 fl_X10_76 hCz.2.1 rfl ?_
                                refine x_put 8 dX10_curve_226 pu_X10_76 hCz.2.1 rfl rfl (Nat.le_of_ble_eq_true rfl) ?_
                                refine x_iload 0 dX10_curve_229 rfl ?_
                                exact x_ireturn dX10_curve_231 rfl (by decide) (by decide) (outM (S2 := S2) (by rw [oCurve, if_neg (by omega), if_pos hgood, if_neg (show ¬ 60 ≤ sCu S by omega)]; exact hq.trans (if_pos (show k2 < 0 by omega))) (MRel.row1 hCz) (MFr.trans hFz (MFr.set MFr.refl (by omega) (by omega))))
                              · refine x_iconst dX10_curve_218 (okI_c rfl) ?_
                                refine x_goto 226 dX10_curve_219 (by decide) ?_
                                refine x_put 8 dX10_curve_226 pu_X10_76 hCz.2.1 rfl rfl (Nat.le_of_ble_eq_true rfl) ?_
                                refine x_iload 0 dX10_curve_229 rfl ?_
                                exact x_ireturn dX10_curve_231 rfl (by decide) (by decide) (outM (S2 := sRow 0 (sRw S2) S2) (by rw [oCurve, if_neg (by omega), if_pos hgood, if_neg (show ¬ 60 ≤ sCu S by omega)]; exact hq.trans (if_neg (show ¬ k2 < 0 by omega))) (MRel.row0 hCz) (MFr.trans hFz (MFr.set MFr.refl (by omega) (by omega))))
                          · refine x_aload_n 0 dX10_curve_159 rfl rfl ?_
                            refine x_get 14 dX10_curve_160 fl_X10_39 ((hset_ne _ _ (by omega)).trans hm) rfl ?_
                            refine x_iload 3 dX10_curve_163 rfl ?_
                            refine x_iload 3 dX10_curve_165 rfl ?_
                            refine x_aload_n 0 dX10_curve_167 rfl rfl ?_
                            refine x_get 8 dX10_curve_168 fl_X10_76 ((hset_ne _ _ (by omega)).trans hm) rfl ?_
                            refine x_icmp_ge 184 dX10_curve_171 (by decide) (fun c_171 => ?_) (fun c_171 => ?_)
                            · have hbb : 0 ≤ (cval (sRn S - st) st gn (sRw S)) (t - st) ∧ (cval (sRn S - st) st gn (sRw S)) (t - st) ≤ 4000000000000000 := row_bnd (by omega) hgood.1 s7 (by omega) (by omega) (fun i q1 q2 => by have := s8 i q1 q2; omega) (t - st) (by omega) (by omega)
                              refine x_aload_n 0 dX10_curve_184 rfl rfl ?_
                              refine x_get 14 dX10_curve_185 fl_X10_39 ((hset_ne _ _ (by omega)).trans hm) rfl ?_
                              refine x_iload 3 dX10_curve_188 rfl ?_
                              refine x_iload_n 1 dX10_curve_190 rfl rfl ?_
                              refine x_isub dX10_curve_191 (by unfold okI; omega) ?_
                              refine x_laload dX10_curve_192 (hset_eq _ _ _) (by omega) (by omega) ?_
                              refine x_asJ (y := ((cval (sRn S - st) st gn (sRw S)) (t - st))) (htl9 (t - st) (by omega) (by omega)) ?_
                              refine x_iload_n 2 dX10_curve_193 rfl rfl ?_
                              refine x_i2l dX10_curve_194 ?_
                              refine x_ladd dX10_curve_195 (by unfold okJ; omega) ?_
                              refine x_lastore dX10_curve_196 (hset_eq _ _ _) (by omega) (by omega) ?_
                              refine x_iinc 3 (L' := [(4, vI (t + 1)), (0, vA m), (1, vI st), (2, vI gn)]) dX10_curve_197 rfl (by unfold okI; omega) (Nat.le_of_ble_eq_true rfl) rfl ?_
                              refine x_goto 151 dX10_curve_200 (by decide) ?_
                              exact EX.pick [1, 2, 3, 0] rfl (x_ash (hset_hset _ _ _ _) (ih_151 (t + 1) (va_up gv t.toNat ((((cval (sRn S - st) st gn (sRw S)) (t - st))) + gn)) (by omega) (by omega) (by omega) (by first | exact htl9.up ht0 (cval_lt (by omega)).symm | exact htl9.up ht0 (by have := cval_per (T := sRn S - st) (D := st) (C := gn) (am := sRw S) (t := t - st) (by omega) (by omega); rw [show t - st + st = t by omega] at this; exact this.symm))))
                            · refine x_aload_n 0 dX10_curve_174 rfl rfl ?_
                              refine x_get 7 dX10_curve_175 fl_X10_26 ((hset_ne _ _ (by omega)).trans hm) rfl ?_
                              refine x_iload 3 dX10_curve_178 rfl ?_
                              refine x_laload dX10_curve_180 ((hset_ne _ _ (by omega)).trans hb6) (by omega) (by omega) ?_
                              refine x_asJ (y := (sRw S (t).toNat)) (hrw (t) (by omega) (by omega)) ?_
                              refine x_goto 196 dX10_curve_181 (by decide) ?_
                              refine x_lastore dX10_curve_196 (hset_eq _ _ _) (by omega) (by omega) ?_
                              refine x_iinc 3 (L' := [(4, vI (t + 1)), (0, vA m), (1, vI st), (2, vI gn)]) dX10_curve_197 rfl (by unfold okI; omega) (Nat.le_of_ble_eq_true rfl) rfl ?_
                              refine x_goto 151 dX10_curve_200 (by decide) ?_
                              exact EX.pick [1, 2, 3, 0] rfl (x_ash (hset_hset _ _ _ _) (ih_151 (t + 1) (va_up gv t.toNat ((sRw S (t).toNat))) (by omega) (by omega) (by omega) (by first | exact htl9.up ht0 (cval_lt (by omega)).symm | exact htl9.up ht0 (by have := cval_per (T := sRn S - st) (D := st) (C := gn) (am := sRw S) (t := t - st) (by omega) (by omega); rw [show t - st + st = t by omega] at this; exact this.symm))))
                      exact EX.pick [1, 2, 3, 0] rfl (x_ash (hset_self hb9).symm (loop_151 ((760 - (0 : Int)).toNat + 1) 0 gw (Nat.lt_succ_self _) (by omega) (by omega) (fun u q1 q2 => by omega)))
                    · refine x_aload_n 0 dX10_curve_141 rfl rfl ?_
                      refine x_bipush dX10_curve_142 (okI_c rfl) (by decide +kernel) ?_
                      refine x_callV [vI ((-3))] dX10_curve_144 kv_X10_58 rfl rfl hm (by omega) (Nat.le_of_ble_eq_true rfl) (by omega) (by omega) (k_X10_refuse (d := 0) (S := S)  (hM)) (fun r1 h1 q1 => ?_)
                      obtain ⟨rfl, hCz, hFz⟩ := q1
                      exact x_ireturn dX10_curve_147 rfl (by omega) (by omega) (outM (by rw [oCurve, if_neg (by omega), if_pos hgood, if_pos (by omega)]; rfl) hCz (MFr.trans MFr.refl hFz))
                  · have hbad : ¬ RowGood (sRn S) (sRw S) st gn := fun z => by
                      first | (have := z.2.2; omega) | exact (b2i_eq (P := (st ≤ sRn S ∧ RwU (sRw S) k)) (by rw [← hie]; exact c_93)) ⟨z.1, fun i q1 q2 => z.2.1 i q1 (by omega)⟩
                    refine x_aload_n 0 dX10_curve_125 rfl rfl ?_
                    refine x_bipush dX10_curve_126 (okI_c rfl) (by decide +kernel) ?_
                    refine x_callV [vI ((-2))] dX10_curve_128 kv_X10_58 rfl rfl hm (by omega) (Nat.le_of_ble_eq_true rfl) (by omega) (by omega) (k_X10_refuse (d := 0) (S := S)  (hM)) (fun r1 h1 q1 => ?_)
                    obtain ⟨rfl, hCz, hFz⟩ := q1
                    exact x_ireturn dX10_curve_131 rfl (by omega) (by omega) (outM (by rw [oCurve, if_neg (by omega), if_neg hbad]; rfl) hCz (MFr.trans MFr.refl hFz))
              · refine x_aload_n 0 dX10_curve_60 rfl rfl ?_
                refine x_get 7 dX10_curve_61 fl_X10_26 hm rfl ?_
                refine x_iload 4 dX10_curve_64 rfl ?_
                refine x_laload dX10_curve_66 hb6 (by omega) (by omega) ?_
                refine x_asJ (y := (sRw S (k).toNat)) (hrw (k) (by omega) (by omega)) ?_
                refine x_aload_n 0 dX10_curve_67 rfl rfl ?_
                refine x_get 7 dX10_curve_68 fl_X10_26 hm rfl ?_
                refine x_iload 4 dX10_curve_71 rfl ?_
                refine x_iconst dX10_curve_73 (okI_c rfl) ?_
                refine x_isub dX10_curve_74 (by unfold okI; omega) ?_
                refine x_laload dX10_curve_75 hb6 (by omega) (by omega) ?_
                refine x_asJ (y := (sRw S (k - 1).toNat)) (hrw (k - 1) (by omega) (by omega)) ?_
                refine x_lc_lt 84 dX10_curve_76 dX10_curve_77 (by decide) (fun c_76 => ?_) (fun c_76 => ?_)
                · refine x_iconst dX10_curve_84 (okI_c rfl) ?_
                  refine x_istore_n (L' := [(3, vI 0), (0, vA m), (1, vI st), (2, vI gn), (4, vI k)]) dX10_curve_85 rfl (Nat.le_of_ble_eq_true rfl) rfl ?_
                  refine x_iinc 4 (L' := [(4, vI (k + 1)), (3, vI 0), (0, vA m), (1, vI st), (2, vI gn)]) dX10_curve_86 rfl (by unfold okI; omega) (Nat.le_of_ble_eq_true rfl) rfl ?_
                  refine x_goto 47 dX10_curve_89 (by decide) ?_
                  exact EX.pick [2, 3, 4, 1, 0] rfl (ih_47 0 (k + 1)  (by omega) (by omega) (by omega) (b2i_f (fun z => by have := z.2.at' hk1; omega)).symm)
                · refine x_iconst dX10_curve_80 (okI_c rfl) ?_
                  refine x_goto 85 dX10_curve_81 (by decide) ?_
                  refine x_istore_n (L' := [(3, vI 1), (0, vA m), (1, vI st), (2, vI gn), (4, vI k)]) dX10_curve_85 rfl (Nat.le_of_ble_eq_true rfl) rfl ?_
                  refine x_iinc 4 (L' := [(4, vI (k + 1)), (3, vI 1), (0, vA m), (1, vI st), (2, vI gn)]) dX10_curve_86 rfl (by unfold okI; omega) (Nat.le_of_ble_eq_true rfl) rfl ?_
                  refine x_goto 47 dX10_curve_89 (by decide) ?_
                  exact EX.pick [2, 3, 4, 1, 0] rfl (ih_47 1 (k + 1)  (by omega) (by omega) (by omega) (b2i_t (by have z := (b2i_ne (P := (st ≤ sRn S ∧ RwU (sRw S) k)) (by rw [← hie]; exact c_57)); exact ⟨z.1, z.2.one hk1 (by omega)⟩)).symm)
        exact EX.pick [2, 3, 4, 1, 0] rfl (loop_47 ((sRn S - (1 : Int)).toNat + 1) 0 1  (Nat.lt_succ_self _) (by omega) (by omega) (b2i_f (fun z => by have := z.1; omega)).symm)
      · refine x_iconst dX10_curve_38 (okI_c rfl) ?_
        refine x_goto 43 dX10_curve_39 (by decide) ?_
        refine x_istore_n (L' := [(3, vI 1), (0, vA m), (1, vI st), (2, vI gn)]) dX10_curve_43 rfl (Nat.le_of_ble_eq_true rfl) rfl ?_
        refine x_iconst dX10_curve_44 (okI_c rfl) ?_
        refine x_istore (L' := [(4, vI 1), (3, vI 1), (0, vA m), (1, vI st), (2, vI gn)]) dX10_curve_45 (Nat.le_of_ble_eq_true rfl) rfl ?_
        have loop_47 : ∀ (k_47 : Nat) (ie : Int) (k : Int) , (sRn S - k).toNat < k_47 → (1 ≤ k) → (k ≤ sRn S ∨ k = 1) → (ie = b2i (st ≤ sRn S ∧ RwU (sRw S) k)) → EX G mX10_curve d 0 0 (MOut m b1 b2 b3 b4 b5 b6 b7 b8 b9 lo hi h vI (oCurve st gn S)) 47 [(0, vA m), (1, vI st), (2, vI gn), (3, vI ie), (4, vI k)] [] h 0 0 := by
          intro k_47
          induction k_47 with
          | zero => intro ie k hm; exact absurd hm (Nat.not_lt_zero _)
          | succ k_47 ih_47 =>
            intro ie k hm_47 hk1 hkn hie
            refine x_iload 4 dX10_curve_47 rfl ?_
            refine x_aload_n 0 dX10_curve_49 rfl rfl ?_
            refine x_get 8 dX10_curve_50 fl_X10_76 hm rfl ?_
            refine x_icmp_ge 92 dX10_curve_53 (by decide) (fun c_53 => ?_) (fun c_53 => ?_)
            · refine x_iload_n 3 dX10_curve_92 rfl rfl ?_
              refine x_if_eq 125 dX10_curve_93 (by decide) (fun c_93 => ?_) (fun c_93 => ?_)
              · have hbad : ¬ RowGood (sRn S) (sRw S) st gn := fun z => by
                  first | (have := z.2.2; omega) | exact (b2i_eq (P := (st ≤ sRn S ∧ RwU (sRw S) k)) (by rw [← hie]; exact c_93)) ⟨z.1, fun i q1 q2 => z.2.1 i q1 (by omega)⟩
                refine x_aload_n 0 dX10_curve_125 rfl rfl ?_
                refine x_bipush dX10_curve_126 (okI_c rfl) (by decide +kernel) ?_
                refine x_callV [vI ((-2))] dX10_curve_128 kv_X10_58 rfl rfl hm (by omega) (Nat.le_of_ble_eq_true rfl) (by omega) (by omega) (k_X10_refuse (d := 0) (S := S)  (hM)) (fun r1 h1 q1 => ?_)
                obtain ⟨rfl, hCz, hFz⟩ := q1
                exact x_ireturn dX10_curve_131 rfl (by omega) (by omega) (outM (by rw [oCurve, if_neg (by omega), if_neg hbad]; rfl) hCz (MFr.trans MFr.refl hFz))
              · have hz := (b2i_ne (P := (st ≤ sRn S ∧ RwU (sRw S) k)) (by rw [← hie]; exact c_93))
                have hz1 := hz.1
                refine x_aload_n 0 dX10_curve_96 rfl rfl ?_
                refine x_get 7 dX10_curve_97 fl_X10_26 hm rfl ?_
                refine x_aload_n 0 dX10_curve_100 rfl rfl ?_
                refine x_get 8 dX10_curve_101 fl_X10_76 hm rfl ?_
                refine x_iload_n 1 dX10_curve_104 rfl rfl ?_
                refine x_isub dX10_curve_105 (by unfold okI; omega) ?_
                refine x_laload dX10_curve_106 hb6 (by omega) (by omega) ?_
                refine x_asJ (y := (sRw S (sRn S - st).toNat)) (hrw (sRn S - st) (by omega) (by omega)) ?_
                refine x_iload_n 2 dX10_curve_107 rfl rfl ?_
                refine x_i2l dX10_curve_108 ?_
                refine x_ladd dX10_curve_109 (by have := s8 (sRn S - st) (by omega) (by omega); unfold okJ; omega) ?_
                refine x_aload_n 0 dX10_curve_110 rfl rfl ?_
                refine x_get 7 dX10_curve_111 fl_X10_26 hm rfl ?_
                refine x_aload_n 0 dX10_curve_114 rfl rfl ?_
                refine x_get 8 dX10_curve_115 fl_X10_76 hm rfl ?_
                refine x_iconst dX10_curve_118 (okI_c rfl) ?_
                refine x_isub dX10_curve_119 (by unfold okI; omega) ?_
                refine x_laload dX10_curve_120 hb6 (by omega) (by omega) ?_
                refine x_asJ (y := (sRw S (sRn S - 1).toNat)) (hrw (sRn S - 1) (by omega) (by omega)) ?_
                refine x_lc_ge 132 dX10_curve_121 dX10_curve_122 (by decide) (fun c_121 => ?_) (fun c_121 => ?_)
                · have hgood : RowGood (sRn S) (sRw S) st gn := ⟨hz.1, fun i q1 q2 => by first | exact hz.2 i q1 (by omega) | exact absurd c_57 c_93, by omega⟩
                  have hro : RowOk (sRn S) st gn (sRw S) := ⟨by omega, by omega, hgood.1, s7, by omega, by omega, fun i q1 q2 => by have := s8 i q1 q2; omega, hgood.2.1, hgood.2.2⟩
                  have hg1 := hgood.1
                  refine x_aload_n 0 dX10_curve_132 rfl rfl ?_
                  refine x_get 0 dX10_curve_133 fl_X10_47 hm rfl ?_
                  refine x_bipush dX10_curve_136 (okI_c rfl) (by decide +kernel) ?_
                  refine x_icmp_ne 148 dX10_curve_138 (by decide) (fun c_138 => ?_) (fun c_138 => ?_)
                  · refine x_iconst dX10_curve_148 (okI_c rfl) ?_
                    refine x_istore (L' := [(4, vI 0), (0, vA m), (1, vI st), (2, vI gn), (3, vI ie)]) dX10_curve_149 (Nat.le_of_ble_eq_true rfl) rfl ?_
                    have loop_151 : ∀ (k_151 : Nat) (t : Int) (gv : Nat → Int), (760 - t).toNat < k_151 → (0 ≤ t) → (t ≤ 760) → (Tells gv ((cval (sRn S - st) st gn (sRw S))) t) → EX G mX10_curve d 0 0 (MOut m b1 b2 b3 b4 b5 b6 b7 b8 b9 lo hi h vI (oCurve st gn S)) 151 [(0, vA m), (1, vI st), (2, vI gn), (4, vI t)] [] (hset h b9 (eJ 760 gv)) 0 0 := by
                      intro k_151
                      induction k_151 with
                      | zero => intro t gv hm; exact absurd hm (Nat.not_lt_zero _)
                      | succ k_151 ih_151 =>
                        intro t gv hm_151 ht0 ht1 htl9
                        refine x_iload 3 dX10_curve_151 rfl ?_
                        refine x_sipush dX10_curve_153 (okI_c rfl) (by decide +kernel) ?_
                        refine x_icmp_ge 203 dX10_curve_156 (by decide) (fun c_156 => ?_) (fun c_156 => ?_)
                        · refine x_aload_n 0 dX10_curve_203 rfl rfl ?_
                          refine x_iload_n 1 dX10_curve_204 rfl rfl ?_
                          refine x_iload_n 2 dX10_curve_205 rfl rfl ?_
                          refine x_i2l dX10_curve_206 ?_
                          refine x_callV [vI st, vJ gn] dX10_curve_207 kv_X10_87 rfl rfl ((hset_ne _ _ (by omega)).trans hm) (by omega) (Nat.le_of_ble_eq_true rfl) (by omega) (by omega) (k_X10_settle (d := 1) (by omega) (hM.made gv) hS (hset_eq _ _ _) (H := (cval (sRn S - st) st gn (sRw S))) (by rw [show (760 : Int) = t by omega]; exact htl9) (row_bnd (by omega) hgood.1 s7 (by omega) (by omega) (fun i q1 q2 => by have := s8 i q1 q2; omega)) (row_M hro) (d0 := st) (c0 := gn) (by omega) (by omega) (by omega) (by omega) (by omega) (fun q => round_of (fr := 300) (by omega) (Per.later (fun u hu => cval_per (by omega) hu) (by omega)) q)) (fun r9 h9 q9 => ?_)
                          generalize hres : mkO (cval (sRn S - st) st gn (sRw S)) st gn S = res at q9
                          obtain ⟨k2, S2⟩ := res
                          obtain ⟨rfl, hCz, hFz⟩ := q9
                          have hq := curve_eq s1 hres
                          have hFz := MFr.trans (MFr.set MFr.refl (b := b9) (e := eJ 760 gv) (by omega) (by omega)) hFz
                          · show EX G mX10_curve d 0 0 _ _ _ [vI k2] _ _ _
                            refine x_istore (L' := [(4, vI k2), (0, vA m), (1, vI st), (2, vI gn)]) dX10_curve_210 (Nat.le_of_ble_eq_true rfl) rfl ?_
                            refine x_aload_n 1 dX10_curve_212 rfl rfl ?_
                            refine x_iload 0 dX10_curve_213 rfl ?_
                            refine x_if_lt 222 dX10_curve_215 (by decide) (fun c_215 => ?_) (fun c_215 => ?_)
                            · refine x_aload_n 1 dX10_curve_222 rfl rfl ?_
                              refine x_get 8 dX10_curve_223 fl_X10_76 hCz.2.1 rfl ?_
                              refine x_put 8 dX10_curve_226 pu_X10_76 hCz.2.1 rfl rfl (Nat.le_of_ble_eq_true rfl) ?_
                              refine x_iload 0 dX10_curve_229 rfl ?_
                              exact x_ireturn dX10_curve_231 rfl (by decide) (by decide) (outM (S2 := S2) (by rw [oCurve, if_neg (by omega), if_pos hgood, if_neg (show ¬ 60 ≤ sCu S by omega)]; exact hq.trans (if_pos (show k2 < 0 by omega))) (MRel.row1 hCz) (MFr.trans hFz (MFr.set MFr.refl (by omega) (by omega))))
                            · refine x_iconst dX10_curve_218 (okI_c rfl) ?_
                              refine x_goto 226 dX10_curve_219 (by decide) ?_
                              refine x_put 8 dX10_curve_226 pu_X10_76 hCz.2.1 rfl rfl (Nat.le_of_ble_eq_true rfl) ?_
                              refine x_iload 0 dX10_curve_229 rfl ?_
                              exact x_ireturn dX10_curve_231 rfl (by decide) (by decide) (outM (S2 := sRow 0 (sRw S2) S2) (by rw [oCurve, if_neg (by omega), if_pos hgood, if_neg (show ¬ 60 ≤ sCu S by omega)]; exact hq.trans (if_neg (show ¬ k2 < 0 by omega))) (MRel.row0 hCz) (MFr.trans hFz (MFr.set MFr.refl (by omega) (by omega))))
                        · refine x_aload_n 0 dX10_curve_159 rfl rfl ?_
                          refine x_get 14 dX10_curve_160 fl_X10_39 ((hset_ne _ _ (by omega)).trans hm) rfl ?_
                          refine x_iload 3 dX10_curve_163 rfl ?_
                          refine x_iload 3 dX10_curve_165 rfl ?_
                          refine x_aload_n 0 dX10_curve_167 rfl rfl ?_
                          refine x_get 8 dX10_curve_168 fl_X10_76 ((hset_ne _ _ (by omega)).trans hm) rfl ?_
                          refine x_icmp_ge 184 dX10_curve_171 (by decide) (fun c_171 => ?_) (fun c_171 => ?_)
                          · have hbb : 0 ≤ (cval (sRn S - st) st gn (sRw S)) (t - st) ∧ (cval (sRn S - st) st gn (sRw S)) (t - st) ≤ 4000000000000000 := row_bnd (by omega) hgood.1 s7 (by omega) (by omega) (fun i q1 q2 => by have := s8 i q1 q2; omega) (t - st) (by omega) (by omega)
                            refine x_aload_n 0 dX10_curve_184 rfl rfl ?_
                            refine x_get 14 dX10_curve_185 fl_X10_39 ((hset_ne _ _ (by omega)).trans hm) rfl ?_
                            refine x_iload 3 dX10_curve_188 rfl ?_
                            refine x_iload_n 1 dX10_curve_190 rfl rfl ?_
                            refine x_isub dX10_curve_191 (by unfold okI; omega) ?_
                            refine x_laload dX10_curve_192 (hset_eq _ _ _) (by omega) (by omega) ?_
                            refine x_asJ (y := ((cval (sRn S - st) st gn (sRw S)) (t - st))) (htl9 (t - st) (by omega) (by omega)) ?_
                            refine x_iload_n 2 dX10_curve_193 rfl rfl ?_
                            refine x_i2l dX10_curve_194 ?_
                            refine x_ladd dX10_curve_195 (by unfold okJ; omega) ?_
                            refine x_lastore dX10_curve_196 (hset_eq _ _ _) (by omega) (by omega) ?_
                            refine x_iinc 3 (L' := [(4, vI (t + 1)), (0, vA m), (1, vI st), (2, vI gn)]) dX10_curve_197 rfl (by unfold okI; omega) (Nat.le_of_ble_eq_true rfl) rfl ?_
                            refine x_goto 151 dX10_curve_200 (by decide) ?_
                            exact EX.pick [1, 2, 3, 0] rfl (x_ash (hset_hset _ _ _ _) (ih_151 (t + 1) (va_up gv t.toNat ((((cval (sRn S - st) st gn (sRw S)) (t - st))) + gn)) (by omega) (by omega) (by omega) (by first | exact htl9.up ht0 (cval_lt (by omega)).symm | exact htl9.up ht0 (by have := cval_per (T := sRn S - st) (D := st) (C := gn) (am := sRw S) (t := t - st) (by omega) (by omega); rw [show t - st + st = t by omega] at this; exact this.symm))))
                          · refine x_aload_n 0 dX10_curve_174 rfl rfl ?_
                            refine x_get 7 dX10_curve_175 fl_X10_26 ((hset_ne _ _ (by omega)).trans hm) rfl ?_
                            refine x_iload 3 dX10_curve_178 rfl ?_
                            refine x_laload dX10_curve_180 ((hset_ne _ _ (by omega)).trans hb6) (by omega) (by omega) ?_
                            refine x_asJ (y := (sRw S (t).toNat)) (hrw (t) (by omega) (by omega)) ?_
                            refine x_goto 196 dX10_curve_181 (by decide) ?_
                            refine x_lastore dX10_curve_196 (hset_eq _ _ _) (by omega) (by omega) ?_
                            refine x_iinc 3 (L' := [(4, vI (t + 1)), (0, vA m), (1, vI st), (2, vI gn)]) dX10_curve_197 rfl (by unfold okI; omega) (Nat.le_of_ble_eq_true rfl) rfl ?_
                            refine x_goto 151 dX10_curve_200 (by decide) ?_
                            exact EX.pick [1, 2, 3, 0] rfl (x_ash (hset_hset _ _ _ _) (ih_151 (t + 1) (va_up gv t.toNat ((sRw S (t).toNat))) (by omega) (by omega) (by omega) (by first | exact htl9.up ht0 (cval_lt (by omega)).symm | exact htl9.up ht0 (by have := cval_per (T := sRn S - st) (D := st) (C := gn) (am := sRw S) (t := t - st) (by omega) (by omega); rw [show t - st + st = t by omega] at this; exact this.symm))))
                    exact EX.pick [1, 2, 3, 0] rfl (x_ash (hset_self hb9).symm (loop_151 ((760 - (0 : Int)).toNat + 1) 0 gw (Nat.lt_succ_self _) (by omega) (by omega) (fun u q1 q2 => by omega)))
                  · refine x_aload_n 0 dX10_curve_141 rfl rfl ?_
                    refine x_bipush dX10_curve_142 (okI_c rfl) (by decide +kernel) ?_
                    refine x_callV [vI ((-3))] dX10_curve_144 kv_X10_58 rfl rfl hm (by omega) (Nat.le_of_ble_eq_true rfl) (by omega) (by omega) (k_X10_refuse (d := 0) (S := S)  (hM)) (fun r1 h1 q1 => ?_)
                    obtain ⟨rfl, hCz, hFz⟩ := q1
                    exact x_ireturn dX10_curve_147 rfl (by omega) (by omega) (outM (by rw [oCurve, if_neg (by omega), if_pos hgood, if_pos (by omega)]; rfl) hCz (MFr.trans MFr.refl hFz))
                · have hbad : ¬ RowGood (sRn S) (sRw S) st gn := fun z => by
                    first | (have := z.2.2; omega) | exact (b2i_eq (P := (st ≤ sRn S ∧ RwU (sRw S) k)) (by rw [← hie]; exact c_93)) ⟨z.1, fun i q1 q2 => z.2.1 i q1 (by omega)⟩
                  refine x_aload_n 0 dX10_curve_125 rfl rfl ?_
                  refine x_bipush dX10_curve_126 (okI_c rfl) (by decide +kernel) ?_
                  refine x_callV [vI ((-2))] dX10_curve_128 kv_X10_58 rfl rfl hm (by omega) (Nat.le_of_ble_eq_true rfl) (by omega) (by omega) (k_X10_refuse (d := 0) (S := S)  (hM)) (fun r1 h1 q1 => ?_)
                  obtain ⟨rfl, hCz, hFz⟩ := q1
                  exact x_ireturn dX10_curve_131 rfl (by omega) (by omega) (outM (by rw [oCurve, if_neg (by omega), if_neg hbad]; rfl) hCz (MFr.trans MFr.refl hFz))
            · refine x_iload_n 3 dX10_curve_56 rfl rfl ?_
              refine x_if_eq 92 dX10_curve_57 (by decide) (fun c_57 => ?_) (fun c_57 => ?_)
              · refine x_iload_n 3 dX10_curve_92 rfl rfl ?_
                refine x_if_eq 125 dX10_curve_93 (by decide) (fun c_93 => ?_) (fun c_93 => ?_)
                · have hbad : ¬ RowGood (sRn S) (sRw S) st gn := fun z => by
                    first | (have := z.2.2; omega) | exact (b2i_eq (P := (st ≤ sRn S ∧ RwU (sRw S) k)) (by rw [← hie]; exact c_93)) ⟨z.1, fun i q1 q2 => z.2.1 i q1 (by omega)⟩
                  refine x_aload_n 0 dX10_curve_125 rfl rfl ?_
                  refine x_bipush dX10_curve_126 (okI_c rfl) (by decide +kernel) ?_
                  refine x_callV [vI ((-2))] dX10_curve_128 kv_X10_58 rfl rfl hm (by omega) (Nat.le_of_ble_eq_true rfl) (by omega) (by omega) (k_X10_refuse (d := 0) (S := S)  (hM)) (fun r1 h1 q1 => ?_)
                  obtain ⟨rfl, hCz, hFz⟩ := q1
                  exact x_ireturn dX10_curve_131 rfl (by omega) (by omega) (outM (by rw [oCurve, if_neg (by omega), if_neg hbad]; rfl) hCz (MFr.trans MFr.refl hFz))
                · have hz := (b2i_ne (P := (st ≤ sRn S ∧ RwU (sRw S) k)) (by rw [← hie]; exact c_93))
                  have hz1 := hz.1
                  refine x_aload_n 0 dX10_curve_96 rfl rfl ?_
                  refine x_get 7 dX10_curve_97 fl_X10_26 hm rfl ?_
                  refine x_aload_n 0 dX10_curve_100 rfl rfl ?_
                  refine x_get 8 dX10_curve_101 fl_X10_76 hm rfl ?_
                  refine x_iload_n 1 dX10_curve_104 rfl rfl ?_
                  refine x_isub dX10_curve_105 (by unfold okI; omega) ?_
                  refine x_laload dX10_curve_106 hb6 (by omega) (by omega) ?_
                  refine x_asJ (y := (sRw S (sRn S - st).toNat)) (hrw (sRn S - st) (by omega) (by omega)) ?_
                  refine x_iload_n 2 dX10_curve_107 rfl rfl ?_
                  refine x_i2l dX10_curve_108 ?_
                  refine x_ladd dX10_curve_109 (by have := s8 (sRn S - st) (by omega) (by omega); unfold okJ; omega) ?_
                  refine x_aload_n 0 dX10_curve_110 rfl rfl ?_
                  refine x_get 7 dX10_curve_111 fl_X10_26 hm rfl ?_
                  refine x_aload_n 0 dX10_curve_114 rfl rfl ?_
                  refine x_get 8 dX10_curve_115 fl_X10_76 hm rfl ?_
                  refine x_iconst dX10_curve_118 (okI_c rfl) ?_
                  refine x_isub dX10_curve_119 (by unfold okI; omega) ?_
                  refine x_laload dX10_curve_120 hb6 (by omega) (by omega) ?_
                  refine x_asJ (y := (sRw S (sRn S - 1).toNat)) (hrw (sRn S - 1) (by omega) (by omega)) ?_
                  refine x_lc_ge 132 dX10_curve_121 dX10_curve_122 (by decide) (fun c_121 => ?_) (fun c_121 => ?_)
                  · have hgood : RowGood (sRn S) (sRw S) st gn := ⟨hz.1, fun i q1 q2 => by first | exact hz.2 i q1 (by omega) | exact absurd c_57 c_93, by omega⟩
                    have hro : RowOk (sRn S) st gn (sRw S) := ⟨by omega, by omega, hgood.1, s7, by omega, by omega, fun i q1 q2 => by have := s8 i q1 q2; omega, hgood.2.1, hgood.2.2⟩
                    have hg1 := hgood.1
                    refine x_aload_n 0 dX10_curve_132 rfl rfl ?_
                    refine x_get 0 dX10_curve_133 fl_X10_47 hm rfl ?_
                    refine x_bipush dX10_curve_136 (okI_c rfl) (by decide +kernel) ?_
                    refine x_icmp_ne 148 dX10_curve_138 (by decide) (fun c_138 => ?_) (fun c_138 => ?_)
                    · refine x_iconst dX10_curve_148 (okI_c rfl) ?_
                      refine x_istore (L' := [(4, vI 0), (0, vA m), (1, vI st), (2, vI gn), (3, vI ie)]) dX10_curve_149 (Nat.le_of_ble_eq_true rfl) rfl ?_
                      have loop_151 : ∀ (k_151 : Nat) (t : Int) (gv : Nat → Int), (760 - t).toNat < k_151 → (0 ≤ t) → (t ≤ 760) → (Tells gv ((cval (sRn S - st) st gn (sRw S))) t) → EX G mX10_curve d 0 0 (MOut m b1 b2 b3 b4 b5 b6 b7 b8 b9 lo hi h vI (oCurve st gn S)) 151 [(0, vA m), (1, vI st), (2, vI gn), (4, vI t)] [] (hset h b9 (eJ 760 gv)) 0 0 := by
                        intro k_151
                        induction k_151 with
                        | zero => intro t gv hm; exact absurd hm (Nat.not_lt_zero _)
                        | succ k_151 ih_151 =>
                          intro t gv hm_151 ht0 ht1 htl9
                          refine x_iload 3 dX10_curve_151 rfl ?_
                          refine x_sipush dX10_curve_153 (okI_c rfl) (by decide +kernel) ?_
                          refine x_icmp_ge 203 dX10_curve_156 (by decide) (fun c_156 => ?_) (fun c_156 => ?_)
                          · refine x_aload_n 0 dX10_curve_203 rfl rfl ?_
                            refine x_iload_n 1 dX10_curve_204 rfl rfl ?_
                            refine x_iload_n 2 dX10_curve_205 rfl rfl ?_
                            refine x_i2l dX10_curve_206 ?_
                            refine x_callV [vI st, vJ gn] dX10_curve_207 kv_X10_87 rfl rfl ((hset_ne _ _ (by omega)).trans hm) (by omega) (Nat.le_of_ble_eq_true rfl) (by omega) (by omega) (k_X10_settle (d := 1) (by omega) (hM.made gv) hS (hset_eq _ _ _) (H := (cval (sRn S - st) st gn (sRw S))) (by rw [show (760 : Int) = t by omega]; exact htl9) (row_bnd (by omega) hgood.1 s7 (by omega) (by omega) (fun i q1 q2 => by have := s8 i q1 q2; omega)) (row_M hro) (d0 := st) (c0 := gn) (by omega) (by omega) (by omega) (by omega) (by omega) (fun q => round_of (fr := 300) (by omega) (Per.later (fun u hu => cval_per (by omega) hu) (by omega)) q)) (fun r9 h9 q9 => ?_)
                            generalize hres : mkO (cval (sRn S - st) st gn (sRw S)) st gn S = res at q9
                            obtain ⟨k2, S2⟩ := res
                            obtain ⟨rfl, hCz, hFz⟩ := q9
                            have hq := curve_eq s1 hres
                            have hFz := MFr.trans (MFr.set MFr.refl (b := b9) (e := eJ 760 gv) (by omega) (by omega)) hFz
                            · show EX G mX10_curve d 0 0 _ _ _ [vI k2] _ _ _
                              refine x_istore (L' := [(4, vI k2), (0, vA m), (1, vI st), (2, vI gn)]) dX10_curve_210 (Nat.le_of_ble_eq_true rfl) rfl ?_
                              refine x_aload_n 1 dX10_curve_212 rfl rfl ?_
                              refine x_iload 0 dX10_curve_213 rfl ?_
                              refine x_if_lt 222 dX10_curve_215 (by decide) (fun c_215 => ?_) (fun c_215 => ?_)
                              · refine x_aload_n 1 dX10_curve_222 rfl rfl ?_
                                refine x_get 8 dX10_curve_223 fl_X10_76 hCz.2.1 rfl ?_
                                refine x_put 8 dX10_curve_226 pu_X10_76 hCz.2.1 rfl rfl (Nat.le_of_ble_eq_true rfl) ?_
                                refine x_iload 0 dX10_curve_229 rfl ?_
                                exact x_ireturn dX10_curve_231 rfl (by decide) (by decide) (outM (S2 := S2) (by rw [oCurve, if_neg (by omega), if_pos hgood, if_neg (show ¬ 60 ≤ sCu S by omega)]; exact hq.trans (if_pos (show k2 < 0 by omega))) (MRel.row1 hCz) (MFr.trans hFz (MFr.set MFr.refl (by omega) (by omega))))
                              · refine x_iconst dX10_curve_218 (okI_c rfl) ?_
                                refine x_goto 226 dX10_curve_219 (by decide) ?_
                                refine x_put 8 dX10_curve_226 pu_X10_76 hCz.2.1 rfl rfl (Nat.le_of_ble_eq_true rfl) ?_
                                refine x_iload 0 dX10_curve_229 rfl ?_
                                exact x_ireturn dX10_curve_231 rfl (by decide) (by decide) (outM (S2 := sRow 0 (sRw S2) S2) (by rw [oCurve, if_neg (by omega), if_pos hgood, if_neg (show ¬ 60 ≤ sCu S by omega)]; exact hq.trans (if_neg (show ¬ k2 < 0 by omega))) (MRel.row0 hCz) (MFr.trans hFz (MFr.set MFr.refl (by omega) (by omega))))
                          · refine x_aload_n 0 dX10_curve_159 rfl rfl ?_
                            refine x_get 14 dX10_curve_160 fl_X10_39 ((hset_ne _ _ (by omega)).trans hm) rfl ?_
                            refine x_iload 3 dX10_curve_163 rfl ?_
                            refine x_iload 3 dX10_curve_165 rfl ?_
                            refine x_aload_n 0 dX10_curve_167 rfl rfl ?_
                            refine x_get 8 dX10_curve_168 fl_X10_76 ((hset_ne _ _ (by omega)).trans hm) rfl ?_
                            refine x_icmp_ge 184 dX10_curve_171 (by decide) (fun c_171 => ?_) (fun c_171 => ?_)
                            · have hbb : 0 ≤ (cval (sRn S - st) st gn (sRw S)) (t - st) ∧ (cval (sRn S - st) st gn (sRw S)) (t - st) ≤ 4000000000000000 := row_bnd (by omega) hgood.1 s7 (by omega) (by omega) (fun i q1 q2 => by have := s8 i q1 q2; omega) (t - st) (by omega) (by omega)
                              refine x_aload_n 0 dX10_curve_184 rfl rfl ?_
                              refine x_get 14 dX10_curve_185 fl_X10_39 ((hset_ne _ _ (by omega)).trans hm) rfl ?_
                              refine x_iload 3 dX10_curve_188 rfl ?_
                              refine x_iload_n 1 dX10_curve_190 rfl rfl ?_
                              refine x_isub dX10_curve_191 (by unfold okI; omega) ?_
                              refine x_laload dX10_curve_192 (hset_eq _ _ _) (by omega) (by omega) ?_
                              refine x_asJ (y := ((cval (sRn S - st) st gn (sRw S)) (t - st))) (htl9 (t - st) (by omega) (by omega)) ?_
                              refine x_iload_n 2 dX10_curve_193 rfl rfl ?_
                              refine x_i2l dX10_curve_194 ?_
                              refine x_ladd dX10_curve_195 (by unfold okJ; omega) ?_
                              refine x_lastore dX10_curve_196 (hset_eq _ _ _) (by omega) (by omega) ?_
                              refine x_iinc 3 (L' := [(4, vI (t + 1)), (0, vA m), (1, vI st), (2, vI gn)]) dX10_curve_197 rfl (by unfold okI; omega) (Nat.le_of_ble_eq_true rfl) rfl ?_
                              refine x_goto 151 dX10_curve_200 (by decide) ?_
                              exact EX.pick [1, 2, 3, 0] rfl (x_ash (hset_hset _ _ _ _) (ih_151 (t + 1) (va_up gv t.toNat ((((cval (sRn S - st) st gn (sRw S)) (t - st))) + gn)) (by omega) (by omega) (by omega) (by first | exact htl9.up ht0 (cval_lt (by omega)).symm | exact htl9.up ht0 (by have := cval_per (T := sRn S - st) (D := st) (C := gn) (am := sRw S) (t := t - st) (by omega) (by omega); rw [show t - st + st = t by omega] at this; exact this.symm))))
                            · refine x_aload_n 0 dX10_curve_174 rfl rfl ?_
                              refine x_get 7 dX10_curve_175 fl_X10_26 ((hset_ne _ _ (by omega)).trans hm) rfl ?_
                              refine x_iload 3 dX10_curve_178 rfl ?_
                              refine x_laload dX10_curve_180 ((hset_ne _ _ (by omega)).trans hb6) (by omega) (by omega) ?_
                              refine x_asJ (y := (sRw S (t).toNat)) (hrw (t) (by omega) (by omega)) ?_
                              refine x_goto 196 dX10_curve_181 (by decide) ?_
                              refine x_lastore dX10_curve_196 (hset_eq _ _ _) (by omega) (by omega) ?_
                              refine x_iinc 3 (L' := [(4, vI (t + 1)), (0, vA m), (1, vI st), (2, vI gn)]) dX10_curve_197 rfl (by unfold okI; omega) (Nat.le_of_ble_eq_true rfl) rfl ?_
                              refine x_goto 151 dX10_curve_200 (by decide) ?_
                              exact EX.pick [1, 2, 3, 0] rfl (x_ash (hset_hset _ _ _ _) (ih_151 (t + 1) (va_up gv t.toNat ((sRw S (t).toNat))) (by omega) (by omega) (by omega) (by first | exact htl9.up ht0 (cval_lt (by omega)).symm | exact htl9.up ht0 (by have := cval_per (T := sRn S - st) (D := st) (C := gn) (am := sRw S) (t := t - st) (by omega) (by omega); rw [show t - st + st = t by omega] at this; exact this.symm))))
                      exact EX.pick [1, 2, 3, 0] rfl (x_ash (hset_self hb9).symm (loop_151 ((760 - (0 : Int)).toNat + 1) 0 gw (Nat.lt_succ_self _) (by omega) (by omega) (fun u q1 q2 => by omega)))
                    · refine x_aload_n 0 dX10_curve_141 rfl rfl ?_
                      refine x_bipush dX10_curve_142 (okI_c rfl) (by decide +kernel) ?_
                      refine x_callV [vI ((-3))] dX10_curve_144 kv_X10_58 rfl rfl hm (by omega) (Nat.le_of_ble_eq_true rfl) (by omega) (by omega) (k_X10_refuse (d := 0) (S := S)  (hM)) (fun r1 h1 q1 => ?_)
                      obtain ⟨rfl, hCz, hFz⟩ := q1
                      exact x_ireturn dX10_curve_147 rfl (by omega) (by omega) (outM (by rw [oCurve, if_neg (by omega), if_pos hgood, if_pos (by omega)]; rfl) hCz (MFr.trans MFr.refl hFz))
                  · have hbad : ¬ RowGood (sRn S) (sRw S) st gn := fun z => by
                      first | (have := z.2.2; omega) | exact (b2i_eq (P := (st ≤ sRn S ∧ RwU (sRw S) k)) (by rw [← hie]; exact c_93)) ⟨z.1, fun i q1 q2 => z.2.1 i q1 (by omega)⟩
                    refine x_aload_n 0 dX10_curve_125 rfl rfl ?_
                    refine x_bipush dX10_curve_126 (okI_c rfl) (by decide +kernel) ?_
                    refine x_callV [vI ((-2))] dX10_curve_128 kv_X10_58 rfl rfl hm (by omega) (Nat.le_of_ble_eq_true rfl) (by omega) (by omega) (k_X10_refuse (d := 0) (S := S)  (hM)) (fun r1 h1 q1 => ?_)
                    obtain ⟨rfl, hCz, hFz⟩ := q1
                    exact x_ireturn dX10_curve_131 rfl (by omega) (by omega) (outM (by rw [oCurve, if_neg (by omega), if_neg hbad]; rfl) hCz (MFr.trans MFr.refl hFz))
              · refine x_aload_n 0 dX10_curve_60 rfl rfl ?_
                refine x_get 7 dX10_curve_61 fl_X10_26 hm rfl ?_
                refine x_iload 4 dX10_curve_64 rfl ?_
                refine x_laload dX10_curve_66 hb6 (by omega) (by omega) ?_
                refine x_asJ (y := (sRw S (k).toNat)) (hrw (k) (by omega) (by omega)) ?_
                refine x_aload_n 0 dX10_curve_67 rfl rfl ?_
                refine x_get 7 dX10_curve_68 fl_X10_26 hm rfl ?_
                refine x_iload 4 dX10_curve_71 rfl ?_
                refine x_iconst dX10_curve_73 (okI_c rfl) ?_
                refine x_isub dX10_curve_74 (by unfold okI; omega) ?_
                refine x_laload dX10_curve_75 hb6 (by omega) (by omega) ?_
                refine x_asJ (y := (sRw S (k - 1).toNat)) (hrw (k - 1) (by omega) (by omega)) ?_
                refine x_lc_lt 84 dX10_curve_76 dX10_curve_77 (by decide) (fun c_76 => ?_) (fun c_76 => ?_)
                · refine x_iconst dX10_curve_84 (okI_c rfl) ?_
                  refine x_istore_n (L' := [(3, vI 0), (0, vA m), (1, vI st), (2, vI gn), (4, vI k)]) dX10_curve_85 rfl (Nat.le_of_ble_eq_true rfl) rfl ?_
                  refine x_iinc 4 (L' := [(4, vI (k + 1)), (3, vI 0), (0, vA m), (1, vI st), (2, vI gn)]) dX10_curve_86 rfl (by unfold okI; omega) (Nat.le_of_ble_eq_true rfl) rfl ?_
                  refine x_goto 47 dX10_curve_89 (by decide) ?_
                  exact EX.pick [2, 3, 4, 1, 0] rfl (ih_47 0 (k + 1)  (by omega) (by omega) (by omega) (b2i_f (fun z => by have := z.2.at' hk1; omega)).symm)
                · refine x_iconst dX10_curve_80 (okI_c rfl) ?_
                  refine x_goto 85 dX10_curve_81 (by decide) ?_
                  refine x_istore_n (L' := [(3, vI 1), (0, vA m), (1, vI st), (2, vI gn), (4, vI k)]) dX10_curve_85 rfl (Nat.le_of_ble_eq_true rfl) rfl ?_
                  refine x_iinc 4 (L' := [(4, vI (k + 1)), (3, vI 1), (0, vA m), (1, vI st), (2, vI gn)]) dX10_curve_86 rfl (by unfold okI; omega) (Nat.le_of_ble_eq_true rfl) rfl ?_
                  refine x_goto 47 dX10_curve_89 (by decide) ?_
                  exact EX.pick [2, 3, 4, 1, 0] rfl (ih_47 1 (k + 1)  (by omega) (by omega) (by omega) (b2i_t (by have z := (b2i_ne (P := (st ≤ sRn S ∧ RwU (sRw S) k)) (by rw [← hie]; exact c_57)); exact ⟨z.1, z.2.one hk1 (by omega)⟩)).symm)
        exact EX.pick [2, 3, 4, 1, 0] rfl (loop_47 ((sRn S - (1 : Int)).toNat + 1) 1 1  (Nat.lt_succ_self _) (by omega) (by omega) (b2i_t ⟨by omega, fun i q1 q2 => by omega⟩).symm)
    · have p_21 := b2i_eq c_21
      refine x_aload_n 0 dX10_curve_24 rfl rfl ?_
      refine x_iconst dX10_curve_25 (okI_c rfl) ?_
      refine x_callV [vI ((-1))] dX10_curve_26 kv_X10_58 rfl rfl hm (by omega) (Nat.le_of_ble_eq_true rfl) (by omega) (by omega) (k_X10_refuse (d := 0) (S := S)  (hM)) (fun r1 h1 q1 => ?_)
      obtain ⟨rfl, hCz, hFz⟩ := q1
      exact x_ireturn dX10_curve_29 rfl (by omega) (by omega) (outM (by rw [oCurve, if_pos (by omega)]; rfl) hCz (MFr.trans MFr.refl hFz))
