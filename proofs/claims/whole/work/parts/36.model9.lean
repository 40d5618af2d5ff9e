/-! ===== FlowCurvesModel: of ===== -/
set_option maxRecDepth 100000 in
set_option maxHeartbeats 4000000 in
theorem k_X10_of {G : aG} {d : Nat} (hd : 5 ≤ d) {m b1 b2 b3 b4 b5 b6 b7 b8 b9 lo hi : Nat} {S : aS} {nc : Nat} {h : aH} (hM : MRel m b1 b2 b3 b4 b5 b6 b7 b8 b9 lo hi S h) (hS : SOk nc S) {w : Int} {f : Int} {g : Int} : MC G mX10_of d 0 0 [vA m, vI w, vI f, vI g] h (MOut m b1 b2 b3 b4 b5 b6 b7 b8 b9 lo hi h vI (oOf w f g S)) := by
  obtain ⟨⟨o0, o1, o2, o3, o4, o5, o6, o7, o8, o9, oA⟩, hm, ⟨gT, gD, gC, gK, gA, hb1, hb2, hb3, hb4, hb5, hcu⟩, ⟨fr, hb6, hrw⟩, ⟨sm, hb7, hsm⟩, ⟨g8, hb8, htl⟩, ⟨gw, hb9⟩⟩ := id hM
  obtain ⟨⟨s1, s2⟩, s3, ⟨s4, s5⟩, ⟨s6, s7, s8⟩, s9, ⟨s10, s11⟩, s12⟩ := id hS
  refine MC.of (by decide) (Nat.le_of_ble_eq_true rfl) (fun ok okh => ?_)
  show EX G mX10_of d 0 0 _ 0 [(0, vA m), (1, vI w), (2, vI f), (3, vI g)] [] h 0 0
  refine x_iload_n 1 dX10_of_0 rfl rfl ?_
  refine x_i2l dX10_of_1 ?_
  refine x_lconst (x := 0) dX10_of_2 (okJ_c rfl) rfl ?_
  refine x_ldc2 (n := 5) dX10_of_3 (okJ_c rfl) kc_X10_107 ?_
  refine x_callS [vJ w, vJ 0, vJ 5] dX10_of_6 ks_X10_50 rfl rfl (by omega) (Nat.le_of_ble_eq_true rfl) (by omega) (by omega) (k_X10_in (d := 0)) (after_ret ?_)
  refine x_if_eq 28 dX10_of_9 (by decide) (fun c_9 => ?_) (fun c_9 => ?_)
  · have p_9 := b2i_eq c_9
    refine x_aload_n 0 dX10_of_28 rfl rfl ?_
    refine x_iconst dX10_of_29 (okI_c rfl) ?_
    refine x_callV [vI ((-1))] dX10_of_30 kv_X10_58 rfl rfl hm (by omega) (Nat.le_of_ble_eq_true rfl) (by omega) (by omega) (k_X10_refuse (d := 0) (S := S)  (hM)) (fun r1 h1 q1 => ?_)
    obtain ⟨rfl, hCz, hFz⟩ := q1
    exact x_ireturn dX10_of_33 rfl (by omega) (by omega) (outM (by rw [oOf, cond_t (by first | exact Or.inr (Or.inl p_17) | exact Or.inr (Or.inr p_25) | exact Or.inl (by omega))]; rfl) hCz (MFr.trans MFr.refl hFz))
  · have p_9 := b2i_ne c_9
    refine x_aload_n 0 dX10_of_12 rfl rfl ?_
    refine x_iload_n 2 dX10_of_13 rfl rfl ?_
    refine x_callV [vI f] dX10_of_14 kv_X10_109 rfl rfl hm (by omega) (Nat.le_of_ble_eq_true rfl) (by omega) (by omega) (k_X10_isCurve (d := 1) (by omega) hM hS (f := f)) (after_ret ?_)
    refine x_if_eq 28 dX10_of_17 (by decide) (fun c_17 => ?_) (fun c_17 => ?_)
    · have p_17 := b2i_eq c_17
      refine x_aload_n 0 dX10_of_28 rfl rfl ?_
      refine x_iconst dX10_of_29 (okI_c rfl) ?_
      refine x_callV [vI ((-1))] dX10_of_30 kv_X10_58 rfl rfl hm (by omega) (Nat.le_of_ble_eq_true rfl) (by omega) (by omega) (k_X10_refuse (d := 0) (S := S)  (hM)) (fun r1 h1 q1 => ?_)
      obtain ⟨rfl, hCz, hFz⟩ := q1
      exact x_ireturn dX10_of_33 rfl (by omega) (by omega) (outM (by rw [oOf, cond_t (by first | exact Or.inr (Or.inl p_17) | exact Or.inr (Or.inr p_25) | exact Or.inl (by omega))]; rfl) hCz (MFr.trans MFr.refl hFz))
    · have p_17 := b2i_ne c_17
      refine x_aload_n 0 dX10_of_20 rfl rfl ?_
      refine x_iload_n 3 dX10_of_21 rfl rfl ?_
      refine x_callV [vI g] dX10_of_22 kv_X10_109 rfl rfl hm (by omega) (Nat.le_of_ble_eq_true rfl) (by omega) (by omega) (k_X10_isCurve (d := 1) (by omega) hM hS (f := g)) (after_ret ?_)
      refine x_if_ne 34 dX10_of_25 (by decide) (fun c_25 => ?_) (fun c_25 => ?_)
      · have p_25 := b2i_ne c_25
        refine x_aload_n 0 dX10_of_34 rfl rfl ?_
        refine x_get 0 dX10_of_35 fl_X10_47 hm rfl ?_
        refine x_bipush dX10_of_38 (okI_c rfl) (by decide +kernel) ?_
        refine x_icmp_ne 50 dX10_of_40 (by decide) (fun c_40 => ?_) (fun c_40 => ?_)
        · have hf := p_17
          have hg := p_25
          have hcf := hcu f hf.1 hf.2
          obtain ⟨hT0f, hT2f, hD0f, hD6f, hC0f, hC1f, hAf, hMf, hWf⟩ := id (s3 f hf.1 hf.2)
          have hlf := hf.2
          have hzf := hf.1
          have hcg := hcu g hg.1 hg.2
          obtain ⟨hT0g, hT2g, hD0g, hD6g, hC0g, hC1g, hAg, hMg, hWg⟩ := id (s3 g hg.1 hg.2)
          have hlg := hg.2
          have hzg := hg.1
          refine x_aload_n 0 dX10_of_50 rfl rfl ?_
          refine x_iload_n 2 dX10_of_51 rfl rfl ?_
          refine x_iload_n 3 dX10_of_52 rfl rfl ?_
          refine x_callV [vI f, vI g] dX10_of_53 kv_X10_113 rfl rfl hm (by omega) (Nat.le_of_ble_eq_true rfl) (by omega) (by omega) (k_X10_together (d := 1) (by omega) hM hS hf hg) (after_ret ?_)
          refine x_nmI (fun x1 e_x1 => ?_)
          refine x_istore (L' := [(4, vI x1), (0, vA m), (1, vI w), (2, vI f), (3, vI g)]) dX10_of_56 (Nat.le_of_ble_eq_true rfl) rfl ?_
          have hxn : ¬ x1 ≤ 60 → sP S f g = -1 := fun q => by rw [sP, lcmS, if_neg (by omega)]
          refine x_iload 0 dX10_of_58 rfl ?_
          refine x_bipush dX10_of_60 (okI_c rfl) (by decide +kernel) ?_
          refine x_icmp_le 72 dX10_of_62 (by decide) (fun c_62 => ?_) (fun c_62 => ?_)
          · have hx1 : sP S f g = x1 := by rw [sP, lcmS, if_pos (by omega), e_x1]
            have hp := lcmS_f (a := sD S f) (b := sD S g) hD0f hD0g (by rw [show lcmS (sD S f) (sD S g) = x1 from hx1]; omega)
            rw [show lcmS (sD S f) (sD S g) = x1 from hx1] at hp
            obtain ⟨hp1, hp2, hp3, hp4⟩ := hp
            have hmx : sMx S f g = max (sT S f) (sT S g) + x1 := by rw [sMx, hx1]
            have hPf : Per (sF S f) (sT S f) x1 (sGi S f x1) := cval_Per hD0f (by omega) hp3
            have hPg : Per (sF S g) (sT S g) x1 (sGi S g x1) := cval_Per hD0g (by omega) hp4
            refine x_aload_n 1 dX10_of_72 rfl rfl ?_
            refine x_iload_n 3 dX10_of_73 rfl rfl ?_
            refine x_iload 0 dX10_of_74 rfl ?_
            refine x_callV [vI f, vI x1] dX10_of_76 kv_X10_116 rfl rfl hm (by omega) (Nat.le_of_ble_eq_true rfl) (by omega) (by omega) (k_X10_gainIn (d := 0) hM hS (f := f) (p := x1) hf (by omega) (by omega)) (after_ret ?_)
            refine x_nmJ (fun xa e_xa => ?_)
            refine x_lstore (L' := [(5, vJ xa), (4, vI x1), (0, vA m), (1, vI w), (2, vI f), (3, vI g)]) dX10_of_79 (Nat.le_of_ble_eq_true rfl) rfl ?_
            refine x_aload_n 2 dX10_of_81 rfl rfl ?_
            refine x_iload_n 5 dX10_of_82 rfl rfl ?_
            refine x_iload 1 dX10_of_83 rfl ?_
            refine x_callV [vI g, vI x1] dX10_of_85 kv_X10_116 rfl rfl hm (by omega) (Nat.le_of_ble_eq_true rfl) (by omega) (by omega) (k_X10_gainIn (d := 0) hM hS (f := g) (p := x1) hg (by omega) (by omega)) (after_ret ?_)
            refine x_nmJ (fun ya e_ya => ?_)
            refine x_lstore (L' := [(7, vJ ya), (5, vJ xa), (4, vI x1), (0, vA m), (1, vI w), (2, vI f), (3, vI g)]) dX10_of_88 (Nat.le_of_ble_eq_true rfl) rfl ?_
            have hga : 0 ≤ sGi S f x1 ∧ sGi S f x1 ≤ 60000000000 := gain_b hC0f hC1f hD0f (show 0 ≤ x1 by omega) (by omega)
            have hgb : 0 ≤ sGi S g x1 ∧ sGi S g x1 ≤ 60000000000 := gain_b hC0g hC1g hD0g (show 0 ≤ x1 by omega) (by omega)
            have hwc := wayC_b (w := w) hga.1 hgb.1 hga.2 hgb.2
            refine x_iload_n 4 dX10_of_90 rfl rfl ?_
            refine x_iconst dX10_of_91 (okI_c rfl) ?_
            refine x_icmp_ne 110 dX10_of_92 (by decide) (fun c_92 => ?_) (fun c_92 => ?_)
            · refine x_aload_n 3 dX10_of_110 rfl rfl ?_
              refine x_iload_n 4 dX10_of_111 rfl rfl ?_
              refine x_iload_n 5 dX10_of_112 rfl rfl ?_
              refine x_iload_n 6 dX10_of_113 rfl rfl ?_
              refine x_iload 2 dX10_of_114 rfl ?_
              refine x_callV [vI w, vI f, vI g, vI x1] dX10_of_116 kv_X10_120 rfl rfl hm (by omega) (Nat.le_of_ble_eq_true rfl) (by omega) (by omega) (k_X10_make (d := 2) (by omega) hM hS (w := w) (f := f) (g := g) (p := x1) hf hg (by omega) (by omega) (by omega) (by omega)) (fun r1 h1 q1 => ?_)
              obtain ⟨rfl, gv, rfl, htl9⟩ := q1
              show EX G mX10_of d 0 0 _ _ _ [] _ _ _
              refine x_iload_n 4 dX10_of_119 rfl rfl ?_
              refine x_if_ne 131 dX10_of_120 (by decide) (fun c_120 => ?_) (fun c_120 => ?_)
              · refine x_iload_n 4 dX10_of_131 rfl rfl ?_
                refine x_iconst dX10_of_132 (okI_c rfl) ?_
                refine x_icmp_ne 154 dX10_of_133 (by decide) (fun c_133 => ?_) (fun c_133 => ?_)
                · refine x_iload_n 4 dX10_of_154 rfl rfl ?_
                  refine x_iconst dX10_of_155 (okI_c rfl) ?_
                  refine x_icmp_ne 179 dX10_of_156 (by decide) (fun c_156 => ?_) (fun c_156 => ?_)
                  · refine x_iload_n 4 dX10_of_179 rfl rfl ?_
                    refine x_iconst dX10_of_180 (okI_c rfl) ?_
                    refine x_icmp_ne 189 dX10_of_181 (by decide) (fun c_181 => ?_) (fun c_181 => ?_)
                    · refine x_lload 1 dX10_of_189 rfl ?_
                      refine x_lload 0 dX10_of_191 rfl ?_
                      refine x_lc_ge 202 dX10_of_193 dX10_of_194 (by decide) (fun c_193 => ?_) (fun c_193 => ?_)
                      · refine x_lload 0 dX10_of_202 rfl ?_
                        refine x_nmJ (fun c0 e_c0 => ?_)
                        refine x_lstore (L' := [(9, vJ c0), (7, vJ ya), (5, vJ xa), (4, vI x1), (0, vA m), (1, vI w), (2, vI f), (3, vI g)]) dX10_of_204 (Nat.le_of_ble_eq_true rfl) rfl ?_
                        have ec : c0 = wayC w (sGi S f x1) (sGi S g x1) := by unfold wayC; (repeat' split) <;> omega
                        rw [← ec] at hwc
                        refine x_aload_n 4 dX10_of_206 rfl rfl ?_
                        refine x_iload 3 dX10_of_207 rfl ?_
                        refine x_lload 0 dX10_of_209 rfl ?_
                        refine x_callV [vI x1, vJ c0] dX10_of_211 kv_X10_87 rfl rfl ((hset_ne _ _ (by omega)).trans hm) (by omega) (Nat.le_of_ble_eq_true rfl) (by omega) (by omega) (k_X10_settle (d := 1) (by omega) (hM.made gv) hS (hset_eq _ _ _) (H := wayS w (sF S f) (sF S g) (max (sT S f) (sT S g) + x1)) htl9 (fun u q1 q2 => by have := way_bnd (k := 760) (n := (max (sT S f) (sT S g) + x1)) (B := 4000000000000) (cval_bnd (n := 760 + (max (sT S f) (sT S g) + x1)) (s3 f hf.1 hf.2) (by omega)) (cval_bnd (n := 760 + (max (sT S f) (sT S g) + x1)) (s3 g hg.1 hg.2) (by omega)) (cval_M (s3 f hf.1 hf.2)) (cval_M (s3 g hg.1 hg.2)) (by omega) (by omega) (by omega) w u q1 q2; exact ⟨this.1, Int.le_trans this.2 (by decide)⟩) (way_mono (cval_M (s3 f hf.1 hf.2)) (cval_M (s3 g hg.1 hg.2)) w _) (d0 := x1) (c0 := c0) (by omega) (by omega) (by omega) (by omega) (by omega) (by rw [ec]; exact fun q => round_of (fr := max 200 (sT S f + sT S g + x1)) (by omega) (way_turn (by omega) (by omega) hT0f hT0g (by omega) (by omega) (fun _ => by omega) hp1 hga.1 hPf hPg (fun t q1 q2 => q t (by omega) (by omega))) q)) (fun r9 h9 q9 => ?_)
                        obtain ⟨rfl, hCz, hFz⟩ := q9
                        exact x_ireturn dX10_of_214 rfl (by omega) (by omega) (outM (by rw [oOf, cond_f (fun z => z.elim (fun y => by omega) (fun y => y.elim (fun y => y p_17) (fun y => y p_25))), if_neg (show ¬ 60 ≤ sCu S by omega), if_neg (show ¬ sP S f g = -1 by omega), hx1, if_neg (show ¬ (w = 5 ∧ sGi S g x1 < sGi S f x1) by omega), hmx, ← ec]) hCz (MFr.trans (MFr.set MFr.refl (by omega) (by omega)) hFz))
                      · refine x_lload 1 dX10_of_197 rfl ?_
                        refine x_goto 204 dX10_of_199 (by decide) ?_
                        refine x_nmJ (fun c0 e_c0 => ?_)
                        refine x_lstore (L' := [(9, vJ c0), (7, vJ ya), (5, vJ xa), (4, vI x1), (0, vA m), (1, vI w), (2, vI f), (3, vI g)]) dX10_of_204 (Nat.le_of_ble_eq_true rfl) rfl ?_
                        have ec : c0 = wayC w (sGi S f x1) (sGi S g x1) := by unfold wayC; (repeat' split) <;> omega
                        rw [← ec] at hwc
                        refine x_aload_n 4 dX10_of_206 rfl rfl ?_
                        refine x_iload 3 dX10_of_207 rfl ?_
                        refine x_lload 0 dX10_of_209 rfl ?_
                        refine x_callV [vI x1, vJ c0] dX10_of_211 kv_X10_87 rfl rfl ((hset_ne _ _ (by omega)).trans hm) (by omega) (Nat.le_of_ble_eq_true rfl) (by omega) (by omega) (k_X10_settle (d := 1) (by omega) (hM.made gv) hS (hset_eq _ _ _) (H := wayS w (sF S f) (sF S g) (max (sT S f) (sT S g) + x1)) htl9 (fun u q1 q2 => by have := way_bnd (k := 760) (n := (max (sT S f) (sT S g) + x1)) (B := 4000000000000) (cval_bnd (n := 760 + (max (sT S f) (sT S g) + x1)) (s3 f hf.1 hf.2) (by omega)) (cval_bnd (n := 760 + (max (sT S f) (sT S g) + x1)) (s3 g hg.1 hg.2) (by omega)) (cval_M (s3 f hf.1 hf.2)) (cval_M (s3 g hg.1 hg.2)) (by omega) (by omega) (by omega) w u q1 q2; exact ⟨this.1, Int.le_trans this.2 (by decide)⟩) (way_mono (cval_M (s3 f hf.1 hf.2)) (cval_M (s3 g hg.1 hg.2)) w _) (d0 := x1) (c0 := c0) (by omega) (by omega) (by omega) (by omega) (by omega) (by rw [ec]; exact fun q => round_of (fr := max 200 (sT S f + sT S g + x1)) (by omega) (way_turn (by omega) (by omega) hT0f hT0g (by omega) (by omega) (fun _ => by omega) hp1 hga.1 hPf hPg (fun t q1 q2 => q t (by omega) (by omega))) q)) (fun r9 h9 q9 => ?_)
                        obtain ⟨rfl, hCz, hFz⟩ := q9
                        exact x_ireturn dX10_of_214 rfl (by omega) (by omega) (outM (by rw [oOf, cond_f (fun z => z.elim (fun y => by omega) (fun y => y.elim (fun y => y p_17) (fun y => y p_25))), if_neg (show ¬ 60 ≤ sCu S by omega), if_neg (show ¬ sP S f g = -1 by omega), hx1, if_neg (show ¬ (w = 5 ∧ sGi S g x1 < sGi S f x1) by omega), hmx, ← ec]) hCz (MFr.trans (MFr.set MFr.refl (by omega) (by omega)) hFz))
                    · refine x_lload 1 dX10_of_184 rfl ?_
                      refine x_goto 204 dX10_of_186 (by decide) ?_
                      refine x_nmJ (fun c0 e_c0 => ?_)
                      refine x_lstore (L' := [(9, vJ c0), (7, vJ ya), (5, vJ xa), (4, vI x1), (0, vA m), (1, vI w), (2, vI f), (3, vI g)]) dX10_of_204 (Nat.le_of_ble_eq_true rfl) rfl ?_
                      have ec : c0 = wayC w (sGi S f x1) (sGi S g x1) := by unfold wayC; (repeat' split) <;> omega
                      rw [← ec] at hwc
                      refine x_aload_n 4 dX10_of_206 rfl rfl ?_
                      refine x_iload 3 dX10_of_207 rfl ?_
                      refine x_lload 0 dX10_of_209 rfl ?_
                      refine x_callV [vI x1, vJ c0] dX10_of_211 kv_X10_87 rfl rfl ((hset_ne _ _ (by omega)).trans hm) (by omega) (Nat.le_of_ble_eq_true rfl) (by omega) (by omega) (k_X10_settle (d := 1) (by omega) (hM.made gv) hS (hset_eq _ _ _) (H := wayS w (sF S f) (sF S g) (max (sT S f) (sT S g) + x1)) htl9 (fun u q1 q2 => by have := way_bnd (k := 760) (n := (max (sT S f) (sT S g) + x1)) (B := 4000000000000) (cval_bnd (n := 760 + (max (sT S f) (sT S g) + x1)) (s3 f hf.1 hf.2) (by omega)) (cval_bnd (n := 760 + (max (sT S f) (sT S g) + x1)) (s3 g hg.1 hg.2) (by omega)) (cval_M (s3 f hf.1 hf.2)) (cval_M (s3 g hg.1 hg.2)) (by omega) (by omega) (by omega) w u q1 q2; exact ⟨this.1, Int.le_trans this.2 (by decide)⟩) (way_mono (cval_M (s3 f hf.1 hf.2)) (cval_M (s3 g hg.1 hg.2)) w _) (d0 := x1) (c0 := c0) (by omega) (by omega) (by omega) (by omega) (by omega) (by rw [ec]; exact fun q => round_of (fr := max 200 (sT S f + sT S g + x1)) (by omega) (way_turn (by omega) (by omega) hT0f hT0g (by omega) (by omega) (fun _ => by omega) hp1 hga.1 hPf hPg (fun t q1 q2 => q t (by omega) (by omega))) q)) (fun r9 h9 q9 => ?_)
                      obtain ⟨rfl, hCz, hFz⟩ := q9
                      exact x_ireturn dX10_of_214 rfl (by omega) (by omega) (outM (by rw [oOf, cond_f (fun z => z.elim (fun y => by omega) (fun y => y.elim (fun y => y p_17) (fun y => y p_25))), if_neg (show ¬ 60 ≤ sCu S by omega), if_neg (show ¬ sP S f g = -1 by omega), hx1, if_neg (show ¬ (w = 5 ∧ sGi S g x1 < sGi S f x1) by omega), hmx, ← ec]) hCz (MFr.trans (MFr.set MFr.refl (by omega) (by omega)) hFz))
                  · refine x_lload 1 dX10_of_159 rfl ?_
                    refine x_lload 0 dX10_of_161 rfl ?_
                    refine x_lc_le 175 dX10_of_163 dX10_of_164 (by decide) (fun c_163 => ?_) (fun c_163 => ?_)
                    · refine x_lconst (x := 0) dX10_of_175 (okJ_c rfl) rfl ?_
                      refine x_goto 204 dX10_of_176 (by decide) ?_
                      refine x_nmJ (fun c0 e_c0 => ?_)
                      refine x_lstore (L' := [(9, vJ c0), (7, vJ ya), (5, vJ xa), (4, vI x1), (0, vA m), (1, vI w), (2, vI f), (3, vI g)]) dX10_of_204 (Nat.le_of_ble_eq_true rfl) rfl ?_
                      have ec : c0 = wayC w (sGi S f x1) (sGi S g x1) := by unfold wayC; (repeat' split) <;> omega
                      rw [← ec] at hwc
                      refine x_aload_n 4 dX10_of_206 rfl rfl ?_
                      refine x_iload 3 dX10_of_207 rfl ?_
                      refine x_lload 0 dX10_of_209 rfl ?_
                      refine x_callV [vI x1, vJ c0] dX10_of_211 kv_X10_87 rfl rfl ((hset_ne _ _ (by omega)).trans hm) (by omega) (Nat.le_of_ble_eq_true rfl) (by omega) (by omega) (k_X10_settle (d := 1) (by omega) (hM.made gv) hS (hset_eq _ _ _) (H := wayS w (sF S f) (sF S g) (max (sT S f) (sT S g) + x1)) htl9 (fun u q1 q2 => by have := way_bnd (k := 760) (n := (max (sT S f) (sT S g) + x1)) (B := 4000000000000) (cval_bnd (n := 760 + (max (sT S f) (sT S g) + x1)) (s3 f hf.1 hf.2) (by omega)) (cval_bnd (n := 760 + (max (sT S f) (sT S g) + x1)) (s3 g hg.1 hg.2) (by omega)) (cval_M (s3 f hf.1 hf.2)) (cval_M (s3 g hg.1 hg.2)) (by omega) (by omega) (by omega) w u q1 q2; exact ⟨this.1, Int.le_trans this.2 (by decide)⟩) (way_mono (cval_M (s3 f hf.1 hf.2)) (cval_M (s3 g hg.1 hg.2)) w _) (d0 := x1) (c0 := c0) (by omega) (by omega) (by omega) (by omega) (by omega) (by rw [ec]; exact fun q => round_of (fr := max 200 (sT S f + sT S g + x1)) (by omega) (way_turn (by omega) (by omega) hT0f hT0g (by omega) (by omega) (fun _ => by omega) hp1 hga.1 hPf hPg (fun t q1 q2 => q t (by omega) (by omega))) q)) (fun r9 h9 q9 => ?_)
                      obtain ⟨rfl, hCz, hFz⟩ := q9
                      exact x_ireturn dX10_of_214 rfl (by omega) (by omega) (outM (by rw [oOf, cond_f (fun z => z.elim (fun y => by omega) (fun y => y.elim (fun y => y p_17) (fun y => y p_25))), if_neg (show ¬ 60 ≤ sCu S by omega), if_neg (show ¬ sP S f g = -1 by omega), hx1, if_neg (show ¬ (w = 5 ∧ sGi S g x1 < sGi S f x1) by omega), hmx, ← ec]) hCz (MFr.trans (MFr.set MFr.refl (by omega) (by omega)) hFz))
                    · refine x_lload 1 dX10_of_167 rfl ?_
                      refine x_lload 0 dX10_of_169 rfl ?_
                      refine x_lsub dX10_of_171 (by unfold okJ; omega) ?_
                      refine x_goto 204 dX10_of_172 (by decide) ?_
                      refine x_nmJ (fun c0 e_c0 => ?_)
                      refine x_lstore (L' := [(9, vJ c0), (7, vJ ya), (5, vJ xa), (4, vI x1), (0, vA m), (1, vI w), (2, vI f), (3, vI g)]) dX10_of_204 (Nat.le_of_ble_eq_true rfl) rfl ?_
                      have ec : c0 = wayC w (sGi S f x1) (sGi S g x1) := by unfold wayC; (repeat' split) <;> omega
                      rw [← ec] at hwc
                      refine x_aload_n 4 dX10_of_206 rfl rfl ?_
                      refine x_iload 3 dX10_of_207 rfl ?_
                      refine x_lload 0 dX10_of_209 rfl ?_
                      refine x_callV [vI x1, vJ c0] dX10_of_211 kv_X10_87 rfl rfl ((hset_ne _ _ (by omega)).trans hm) (by omega) (Nat.le_of_ble_eq_true rfl) (by omega) (by omega) (k_X10_settle (d := 1) (by omega) (hM.made gv) hS (hset_eq _ _ _) (H := wayS w (sF S f) (sF S g) (max (sT S f) (sT S g) + x1)) htl9 (fun u q1 q2 => by have := way_bnd (k := 760) (n := (max (sT S f) (sT S g) + x1)) (B := 4000000000000) (cval_bnd (n := 760 + (max (sT S f) (sT S g) + x1)) (s3 f hf.1 hf.2) (by omega)) (cval_bnd (n := 760 + (max (sT S f) (sT S g) + x1)) (s3 g hg.1 hg.2) (by omega)) (cval_M (s3 f hf.1 hf.2)) (cval_M (s3 g hg.1 hg.2)) (by omega) (by omega) (by omega) w u q1 q2; exact ⟨this.1, Int.le_trans this.2 (by decide)⟩) (way_mono (cval_M (s3 f hf.1 hf.2)) (cval_M (s3 g hg.1 hg.2)) w _) (d0 := x1) (c0 := c0) (by omega) (by omega) (by omega) (by omega) (by omega) (by rw [ec]; exact fun q => round_of (fr := max 200 (sT S f + sT S g + x1)) (by omega) (way_turn (by omega) (by omega) hT0f hT0g (by omega) (by omega) (fun _ => by omega) hp1 hga.1 hPf hPg (fun t q1 q2 => q t (by omega) (by omega))) q)) (fun r9 h9 q9 => ?_)
                      obtain ⟨rfl, hCz, hFz⟩ := q9
                      exact x_ireturn dX10_of_214 rfl (by omega) (by omega) (outM (by rw [oOf, cond_f (fun z => z.elim (fun y => by omega) (fun y => y.elim (fun y => y p_17) (fun y => y p_25))), if_neg (show ¬ 60 ≤ sCu S by omega), if_neg (show ¬ sP S f g = -1 by omega), hx1, if_neg (show ¬ (w = 5 ∧ sGi S g x1 < sGi S f x1) by omega), hmx, ← ec]) hCz (MFr.trans (MFr.set MFr.refl (by omega) (by omega)) hFz))
                · refine x_lload 1 dX10_of_136 rfl ?_
                  refine x_lload 0 dX10_of_138 rfl ?_
                  refine x_lc_le 149 dX10_of_140 dX10_of_141 (by decide) (fun c_140 => ?_) (fun c_140 => ?_)
                  · refine x_lload 0 dX10_of_149 rfl ?_
                    refine x_goto 204 dX10_of_151 (by decide) ?_
                    refine x_nmJ (fun c0 e_c0 => ?_)
                    refine x_lstore (L' := [(9, vJ c0), (7, vJ ya), (5, vJ xa), (4, vI x1), (0, vA m), (1, vI w), (2, vI f), (3, vI g)]) dX10_of_204 (Nat.le_of_ble_eq_true rfl) rfl ?_
                    have ec : c0 = wayC w (sGi S f x1) (sGi S g x1) := by unfold wayC; (repeat' split) <;> omega
                    rw [← ec] at hwc
                    refine x_aload_n 4 dX10_of_206 rfl rfl ?_
                    refine x_iload 3 dX10_of_207 rfl ?_
                    refine x_lload 0 dX10_of_209 rfl ?_
                    refine x_callV [vI x1, vJ c0] dX10_of_211 kv_X10_87 rfl rfl ((hset_ne _ _ (by omega)).trans hm) (by omega) (Nat.le_of_ble_eq_true rfl) (by omega) (by omega) (k_X10_settle (d := 1) (by omega) (hM.made gv) hS (hset_eq _ _ _) (H := wayS w (sF S f) (sF S g) (max (sT S f) (sT S g) + x1)) htl9 (fun u q1 q2 => by have := way_bnd (k := 760) (n := (max (sT S f) (sT S g) + x1)) (B := 4000000000000) (cval_bnd (n := 760 + (max (sT S f) (sT S g) + x1)) (s3 f hf.1 hf.2) (by omega)) (cval_bnd (n := 760 + (max (sT S f) (sT S g) + x1)) (s3 g hg.1 hg.2) (by omega)) (cval_M (s3 f hf.1 hf.2)) (cval_M (s3 g hg.1 hg.2)) (by omega) (by omega) (by omega) w u q1 q2; exact ⟨this.1, Int.le_trans this.2 (by decide)⟩) (way_mono (cval_M (s3 f hf.1 hf.2)) (cval_M (s3 g hg.1 hg.2)) w _) (d0 := x1) (c0 := c0) (by omega) (by omega) (by omega) (by omega) (by omega) (by rw [ec]; exact fun q => round_of (fr := max 200 (sT S f + sT S g + x1)) (by omega) (way_turn (by omega) (by omega) hT0f hT0g (by omega) (by omega) (fun _ => by omega) hp1 hga.1 hPf hPg (fun t q1 q2 => q t (by omega) (by omega))) q)) (fun r9 h9 q9 => ?_)
                    obtain ⟨rfl, hCz, hFz⟩ := q9
                    exact x_ireturn dX10_of_214 rfl (by omega) (by omega) (outM (by rw [oOf, cond_f (fun z => z.elim (fun y => by omega) (fun y => y.elim (fun y => y p_17) (fun y => y p_25))), if_neg (show ¬ 60 ≤ sCu S by omega), if_neg (show ¬ sP S f g = -1 by omega), hx1, if_neg (show ¬ (w = 5 ∧ sGi S g x1 < sGi S f x1) by omega), hmx, ← ec]) hCz (MFr.trans (MFr.set MFr.refl (by omega) (by omega)) hFz))
                  · refine x_lload 1 dX10_of_144 rfl ?_
                    refine x_goto 204 dX10_of_146 (by decide) ?_
                    refine x_nmJ (fun c0 e_c0 => ?_)
                    refine x_lstore (L' := [(9, vJ c0), (7, vJ ya), (5, vJ xa), (4, vI x1), (0, vA m), (1, vI w), (2, vI f), (3, vI g)]) dX10_of_204 (Nat.le_of_ble_eq_true rfl) rfl ?_
                    have ec : c0 = wayC w (sGi S f x1) (sGi S g x1) := by unfold wayC; (repeat' split) <;> omega
                    rw [← ec] at hwc
                    refine x_aload_n 4 dX10_of_206 rfl rfl ?_
                    refine x_iload 3 dX10_of_207 rfl ?_
                    refine x_lload 0 dX10_of_209 rfl ?_
                    refine x_callV [vI x1, vJ c0] dX10_of_211 kv_X10_87 rfl rfl ((hset_ne _ _ (by omega)).trans hm) (by omega) (Nat.le_of_ble_eq_true rfl) (by omega) (by omega) (k_X10_settle (d := 1) (by omega) (hM.made gv) hS (hset_eq _ _ _) (H := wayS w (sF S f) (sF S g) (max (sT S f) (sT S g) + x1)) htl9 (fun u q1 q2 => by have := way_bnd (k := 760) (n := (max (sT S f) (sT S g) + x1)) (B := 4000000000000) (cval_bnd (n := 760 + (max (sT S f) (sT S g) + x1)) (s3 f hf.1 hf.2) (by omega)) (cval_bnd (n := 760 + (max (sT S f) (sT S g) + x1)) (s3 g hg.1 hg.2) (by omega)) (cval_M (s3 f hf.1 hf.2)) (cval_M (s3 g hg.1 hg.2)) (by omega) (by omega) (by omega) w u q1 q2; exact ⟨this.1, Int.le_trans this.2 (by decide)⟩) (way_mono (cval_M (s3 f hf.1 hf.2)) (cval_M (s3 g hg.1 hg.2)) w _) (d0 := x1) (c0 := c0) (by omega) (by omega) (by omega) (by omega) (by omega) (by rw [ec]; exact fun q => round_of (fr := max 200 (sT S f + sT S g + x1)) (by omega) (way_turn (by omega) (by omega) hT0f hT0g (by omega) (by omega) (fun _ => by omega) hp1 hga.1 hPf hPg (fun t q1 q2 => q t (by omega) (by omega))) q)) (fun r9 h9 q9 => ?_)
                    obtain ⟨rfl, hCz, hFz⟩ := q9
                    exact x_ireturn dX10_of_214 rfl (by omega) (by omega) (outM (by rw [oOf, cond_f (fun z => z.elim (fun y => by omega) (fun y => y.elim (fun y => y p_17) (fun y => y p_25))), if_neg (show ¬ 60 ≤ sCu S by omega), if_neg (show ¬ sP S f g = -1 by omega), hx1, if_neg (show ¬ (w = 5 ∧ sGi S g x1 < sGi S f x1) by omega), hmx, ← ec]) hCz (MFr.trans (MFr.set MFr.refl (by omega) (by omega)) hFz))
              · refine x_lload 1 dX10_of_123 rfl ?_
                refine x_lload 0 dX10_of_125 rfl ?_
                refine x_ladd dX10_of_127 (by unfold okJ; omega) ?_
                refine x_goto 204 dX10_of_128 (by decide) ?_
                refine x_nmJ (fun c0 e_c0 => ?_)
                refine x_lstore (L' := [(9, vJ c0), (7, vJ ya), (5, vJ xa), (4, vI x1), (0, vA m), (1, vI w), (2, vI f), (3, vI g)]) dX10_of_204 (Nat.le_of_ble_eq_true rfl) rfl ?_
                have ec : c0 = wayC w (sGi S f x1) (sGi S g x1) := by unfold wayC; (repeat' split) <;> omega
                rw [← ec] at hwc
                refine x_aload_n 4 dX10_of_206 rfl rfl ?_
                refine x_iload 3 dX10_of_207 rfl ?_
                refine x_lload 0 dX10_of_209 rfl ?_
                refine x_callV [vI x1, vJ c0] dX10_of_211 kv_X10_87 rfl rfl ((hset_ne _ _ (by omega)).trans hm) (by omega) (Nat.le_of_ble_eq_true rfl) (by omega) (by omega) (k_X10_settle (d := 1) (by omega) (hM.made gv) hS (hset_eq _ _ _) (H := wayS w (sF S f) (sF S g) (max (sT S f) (sT S g) + x1)) htl9 (fun u q1 q2 => by have := way_bnd (k := 760) (n := (max (sT S f) (sT S g) + x1)) (B := 4000000000000) (cval_bnd (n := 760 + (max (sT S f) (sT S g) + x1)) (s3 f hf.1 hf.2) (by omega)) (cval_bnd (n := 760 + (max (sT S f) (sT S g) + x1)) (s3 g hg.1 hg.2) (by omega)) (cval_M (s3 f hf.1 hf.2)) (cval_M (s3 g hg.1 hg.2)) (by omega) (by omega) (by omega) w u q1 q2; exact ⟨this.1, Int.le_trans this.2 (by decide)⟩) (way_mono (cval_M (s3 f hf.1 hf.2)) (cval_M (s3 g hg.1 hg.2)) w _) (d0 := x1) (c0 := c0) (by omega) (by omega) (by omega) (by omega) (by omega) (by rw [ec]; exact fun q => round_of (fr := max 200 (sT S f + sT S g + x1)) (by omega) (way_turn (by omega) (by omega) hT0f hT0g (by omega) (by omega) (fun _ => by omega) hp1 hga.1 hPf hPg (fun t q1 q2 => q t (by omega) (by omega))) q)) (fun r9 h9 q9 => ?_)
                obtain ⟨rfl, hCz, hFz⟩ := q9
                exact x_ireturn dX10_of_214 rfl (by omega) (by omega) (outM (by rw [oOf, cond_f (fun z => z.elim (fun y => by omega) (fun y => y.elim (fun y => y p_17) (fun y => y p_25))), if_neg (show ¬ 60 ≤ sCu S by omega), if_neg (show ¬ sP S f g = -1 by omega), hx1, if_neg (show ¬ (w = 5 ∧ sGi S g x1 < sGi S f x1) by omega), hmx, ← ec]) hCz (MFr.trans (MFr.set MFr.refl (by omega) (by omega)) hFz))
            · refine x_lload 1 dX10_of_95 rfl ?_
              refine x_lload 0 dX10_of_97 rfl ?_
              refine x_lc_le 110 dX10_of_99 dX10_of_100 (by decide) (fun c_99 => ?_) (fun c_99 => ?_)
              · refine x_aload_n 3 dX10_of_110 rfl rfl ?_
                refine x_iload_n 4 dX10_of_111 rfl rfl ?_
                refine x_iload_n 5 dX10_of_112 rfl rfl ?_
                refine x_iload_n 6 dX10_of_113 rfl rfl ?_
                refine x_iload 2 dX10_of_114 rfl ?_
                refine x_callV [vI w, vI f, vI g, vI x1] dX10_of_116 kv_X10_120 rfl rfl hm (by omega) (Nat.le_of_ble_eq_true rfl) (by omega) (by omega) (k_X10_make (d := 2) (by omega) hM hS (w := w) (f := f) (g := g) (p := x1) hf hg (by omega) (by omega) (by omega) (by omega)) (fun r1 h1 q1 => ?_)
                obtain ⟨rfl, gv, rfl, htl9⟩ := q1
                show EX G mX10_of d 0 0 _ _ _ [] _ _ _
                refine x_iload_n 4 dX10_of_119 rfl rfl ?_
                refine x_if_ne 131 dX10_of_120 (by decide) (fun c_120 => ?_) (fun c_120 => ?_)
                · refine x_iload_n 4 dX10_of_131 rfl rfl ?_
                  refine x_iconst dX10_of_132 (okI_c rfl) ?_
                  refine x_icmp_ne 154 dX10_of_133 (by decide) (fun c_133 => ?_) (fun c_133 => ?_)
                  · refine x_iload_n 4 dX10_of_154 rfl rfl ?_
                    refine x_iconst dX10_of_155 (okI_c rfl) ?_
                    refine x_icmp_ne 179 dX10_of_156 (by decide) (fun c_156 => ?_) (fun c_156 => ?_)
                    · refine x_iload_n 4 dX10_of_179 rfl rfl ?_
                      refine x_iconst dX10_of_180 (okI_c rfl) ?_
                      refine x_icmp_ne 189 dX10_of_181 (by decide) (fun c_181 => ?_) (fun c_181 => ?_)
                      · refine x_lload 1 dX10_of_189 rfl ?_
                        refine x_lload 0 dX10_of_191 rfl ?_
                        refine x_lc_ge 202 dX10_of_193 dX10_of_194 (by decide) (fun c_193 => ?_) (fun c_193 => ?_)
                        · refine x_lload 0 dX10_of_202 rfl ?_
                          refine x_nmJ (fun c0 e_c0 => ?_)
                          refine x_lstore (L' := [(9, vJ c0), (7, vJ ya), (5, vJ xa), (4, vI x1), (0, vA m), (1, vI w), (2, vI f), (3, vI g)]) dX10_of_204 (Nat.le_of_ble_eq_true rfl) rfl ?_
                          have ec : c0 = wayC w (sGi S f x1) (sGi S g x1) := by unfold wayC; (repeat' split) <;> omega
                          rw [← ec] at hwc
                          refine x_aload_n 4 dX10_of_206 rfl rfl ?_
                          refine x_iload 3 dX10_of_207 rfl ?_
                          refine x_lload 0 dX10_of_209 rfl ?_
                          refine x_callV [vI x1, vJ c0] dX10_of_211 kv_X10_87 rfl rfl ((hset_ne _ _ (by omega)).trans hm) (by omega) (Nat.le_of_ble_eq_true rfl) (by omega) (by omega) (k_X10_settle (d := 1) (by omega) (hM.made gv) hS (hset_eq _ _ _) (H := wayS w (sF S f) (sF S g) (max (sT S f) (sT S g) + x1)) htl9 (fun u q1 q2 => by have := way_bnd (k := 760) (n := (max (sT S f) (sT S g) + x1)) (B := 4000000000000) (cval_bnd (n := 760 + (max (sT S f) (sT S g) + x1)) (s3 f hf.1 hf.2) (by omega)) (cval_bnd (n := 760 + (max (sT S f) (sT S g) + x1)) (s3 g hg.1 hg.2) (by omega)) (cval_M (s3 f hf.1 hf.2)) (cval_M (s3 g hg.1 hg.2)) (by omega) (by omega) (by omega) w u q1 q2; exact ⟨this.1, Int.le_trans this.2 (by decide)⟩) (way_mono (cval_M (s3 f hf.1 hf.2)) (cval_M (s3 g hg.1 hg.2)) w _) (d0 := x1) (c0 := c0) (by omega) (by omega) (by omega) (by omega) (by omega) (by rw [ec]; exact fun q => round_of (fr := max 200 (sT S f + sT S g + x1)) (by omega) (way_turn (by omega) (by omega) hT0f hT0g (by omega) (by omega) (fun _ => by omega) hp1 hga.1 hPf hPg (fun t q1 q2 => q t (by omega) (by omega))) q)) (fun r9 h9 q9 => ?_)
                          obtain ⟨rfl, hCz, hFz⟩ := q9
                          exact x_ireturn dX10_of_214 rfl (by omega) (by omega) (outM (by rw [oOf, cond_f (fun z => z.elim (fun y => by omega) (fun y => y.elim (fun y => y p_17) (fun y => y p_25))), if_neg (show ¬ 60 ≤ sCu S by omega), if_neg (show ¬ sP S f g = -1 by omega), hx1, if_neg (show ¬ (w = 5 ∧ sGi S g x1 < sGi S f x1) by omega), hmx, ← ec]) hCz (MFr.trans (MFr.set MFr.refl (by omega) (by omega)) hFz))
                        · refine x_lload 1 dX10_of_197 rfl ?_
                          refine x_goto 204 dX10_of_199 (by decide) ?_
                          refine x_nmJ (fun c0 e_c0 => ?_)
                          refine x_lstore (L' := [(9, vJ c0), (7, vJ ya), (5, vJ xa), (4, vI x1), (0, vA m), (1, vI w), (2, vI f), (3, vI g)]) dX10_of_204 (Nat.le_of_ble_eq_true rfl) rfl ?_
                          have ec : c0 = wayC w (sGi S f x1) (sGi S g x1) := by unfold wayC; (repeat' split) <;> omega
                          rw [← ec] at hwc
                          refine x_aload_n 4 dX10_of_206 rfl rfl ?_
                          refine x_iload 3 dX10_of_207 rfl ?_
                          refine x_lload 0 dX10_of_209 rfl ?_
                          refine x_callV [vI x1, vJ c0] dX10_of_211 kv_X10_87 rfl rfl ((hset_ne _ _ (by omega)).trans hm) (by omega) (Nat.le_of_ble_eq_true rfl) (by omega) (by omega) (k_X10_settle (d := 1) (by omega) (hM.made gv) hS (hset_eq _ _ _) (H := wayS w (sF S f) (sF S g) (max (sT S f) (sT S g) + x1)) htl9 (fun u q1 q2 => by have := way_bnd (k := 760) (n := (max (sT S f) (sT S g) + x1)) (B := 4000000000000) (cval_bnd (n := 760 + (max (sT S f) (sT S g) + x1)) (s3 f hf.1 hf.2) (by omega)) (cval_bnd (n := 760 + (max (sT S f) (sT S g) + x1)) (s3 g hg.1 hg.2) (by omega)) (cval_M (s3 f hf.1 hf.2)) (cval_M (s3 g hg.1 hg.2)) (by omega) (by omega) (by omega) w u q1 q2; exact ⟨this.1, Int.le_trans this.2 (by decide)⟩) (way_mono (cval_M (s3 f hf.1 hf.2)) (cval_M (s3 g hg.1 hg.2)) w _) (d0 := x1) (c0 := c0) (by omega) (by omega) (by omega) (by omega) (by omega) (by rw [ec]; exact fun q => round_of (fr := max 200 (sT S f + sT S g + x1)) (by omega) (way_turn (by omega) (by omega) hT0f hT0g (by omega) (by omega) (fun _ => by omega) hp1 hga.1 hPf hPg (fun t q1 q2 => q t (by omega) (by omega))) q)) (fun r9 h9 q9 => ?_)
                          obtain ⟨rfl, hCz, hFz⟩ := q9
                          exact x_ireturn dX10_of_214 rfl (by omega) (by omega) (outM (by rw [oOf, cond_f (fun z => z.elim (fun y => by omega) (fun y => y.elim (fun y => y p_17) (fun y => y p_25))), if_neg (show ¬ 60 ≤ sCu S by omega), if_neg (show ¬ sP S f g = -1 by omega), hx1, if_neg (show ¬ (w = 5 ∧ sGi S g x1 < sGi S f x1) by omega), hmx, ← ec]) hCz (MFr.trans (MFr.set MFr.refl (by omega) (by omega)) hFz))
                      · refine x_lload 1 dX10_of_184 rfl ?_
                        refine x_goto 204 dX10_of_186 (by decide) ?_
                        refine x_nmJ (fun c0 e_c0 => ?_)
                        refine x_lstore (L' := [(9, vJ c0), (7, vJ ya), (5, vJ xa), (4, vI x1), (0, vA m), (1, vI w), (2, vI f), (3, vI g)]) dX10_of_204 (Nat.le_of_ble_eq_true rfl) rfl ?_
                        have ec : c0 = wayC w (sGi S f x1) (sGi S g x1) := by unfold wayC; (repeat' split) <;> omega
                        rw [← ec] at hwc
                        refine x_aload_n 4 dX10_of_206 rfl rfl ?_
                        refine x_iload 3 dX10_of_207 rfl ?_
                        refine x_lload 0 dX10_of_209 rfl ?_
                        refine x_callV [vI x1, vJ c0] dX10_of_211 kv_X10_87 rfl rfl ((hset_ne _ _ (by omega)).trans hm) (by omega) (Nat.le_of_ble_eq_true rfl) (by omega) (by omega) (k_X10_settle (d := 1) (by omega) (hM.made gv) hS (hset_eq _ _ _) (H := wayS w (sF S f) (sF S g) (max (sT S f) (sT S g) + x1)) htl9 (fun u q1 q2 => by have := way_bnd (k := 760) (n := (max (sT S f) (sT S g) + x1)) (B := 4000000000000) (cval_bnd (n := 760 + (max (sT S f) (sT S g) + x1)) (s3 f hf.1 hf.2) (by omega)) (cval_bnd (n := 760 + (max (sT S f) (sT S g) + x1)) (s3 g hg.1 hg.2) (by omega)) (cval_M (s3 f hf.1 hf.2)) (cval_M (s3 g hg.1 hg.2)) (by omega) (by omega) (by omega) w u q1 q2; exact ⟨this.1, Int.le_trans this.2 (by decide)⟩) (way_mono (cval_M (s3 f hf.1 hf.2)) (cval_M (s3 g hg.1 hg.2)) w _) (d0 := x1) (c0 := c0) (by omega) (by omega) (by omega) (by omega) (by omega) (by rw [ec]; exact fun q => round_of (fr := max 200 (sT S f + sT S g + x1)) (by omega) (way_turn (by omega) (by omega) hT0f hT0g (by omega) (by omega) (fun _ => by omega) hp1 hga.1 hPf hPg (fun t q1 q2 => q t (by omega) (by omega))) q)) (fun r9 h9 q9 => ?_)
                        obtain ⟨rfl, hCz, hFz⟩ := q9
                        exact x_ireturn dX10_of_214 rfl (by omega) (by omega) (outM (by rw [oOf, cond_f (fun z => z.elim (fun y => by omega) (fun y => y.elim (fun y => y p_17) (fun y => y p_25))), if_neg (show ¬ 60 ≤ sCu S by omega), if_neg (show ¬ sP S f g = -1 by omega), hx1, if_neg (show ¬ (w = 5 ∧ sGi S g x1 < sGi S f x1) by omega), hmx, ← ec]) hCz (MFr.trans (MFr.set MFr.refl (by omega) (by omega)) hFz))
                    · refine x_lload 1 dX10_of_159 rfl ?_
                      refine x_lload 0 dX10_of_161 rfl ?_
                      refine x_lc_le 175 dX10_of_163 dX10_of_164 (by decide) (fun c_163 => ?_) (fun c_163 => ?_)
                      · refine x_lconst (x := 0) dX10_of_175 (okJ_c rfl) rfl ?_
                        refine x_goto 204 dX10_of_176 (by decide) ?_
                        refine x_nmJ (fun c0 e_c0 => ?_)
                        refine x_lstore (L' := [(9, vJ c0), (7, vJ ya), (5, vJ xa), (4, vI x1), (0, vA m), (1, vI w), (2, vI f), (3, vI g)]) dX10_of_204 (Nat.le_of_ble_eq_true rfl) rfl ?_
                        have ec : c0 = wayC w (sGi S f x1) (sGi S g x1) := by unfold wayC; (repeat' split) <;> omega
                        rw [← ec] at hwc
                        refine x_aload_n 4 dX10_of_206 rfl rfl ?_
                        refine x_iload 3 dX10_of_207 rfl ?_
                        refine x_lload 0 dX10_of_209 rfl ?_
                        refine x_callV [vI x1, vJ c0] dX10_of_211 kv_X10_87 rfl rfl ((hset_ne _ _ (by omega)).trans hm) (by omega) (Nat.le_of_ble_eq_true rfl) (by omega) (by omega) (k_X10_settle (d := 1) (by omega) (hM.made gv) hS (hset_eq _ _ _) (H := wayS w (sF S f) (sF S g) (max (sT S f) (sT S g) + x1)) htl9 (fun u q1 q2 => by have := way_bnd (k := 760) (n := (max (sT S f) (sT S g) + x1)) (B := 4000000000000) (cval_bnd (n := 760 + (max (sT S f) (sT S g) + x1)) (s3 f hf.1 hf.2) (by omega)) (cval_bnd (n := 760 + (max (sT S f) (sT S g) + x1)) (s3 g hg.1 hg.2) (by omega)) (cval_M (s3 f hf.1 hf.2)) (cval_M (s3 g hg.1 hg.2)) (by omega) (by omega) (by omega) w u q1 q2; exact ⟨this.1, Int.le_trans this.2 (by decide)⟩) (way_mono (cval_M (s3 f hf.1 hf.2)) (cval_M (s3 g hg.1 hg.2)) w _) (d0 := x1) (c0 := c0) (by omega) (by omega) (by omega) (by omega) (by omega) (by rw [ec]; exact fun q => round_of (fr := max 200 (sT S f + sT S g + x1)) (by omega) (way_turn (by omega) (by omega) hT0f hT0g (by omega) (by omega) (fun _ => by omega) hp1 hga.1 hPf hPg (fun t q1 q2 => q t (by omega) (by omega))) q)) (fun r9 h9 q9 => ?_)
                        obtain ⟨rfl, hCz, hFz⟩ := q9
                        exact x_ireturn dX10_of_214 rfl (by omega) (by omega) (outM (by rw [oOf, cond_f (fun z => z.elim (fun y => by omega) (fun y => y.elim (fun y => y p_17) (fun y => y p_25))), if_neg (show ¬ 60 ≤ sCu S by omega), if_neg (show ¬ sP S f g = -1 by omega), hx1, if_neg (show ¬ (w = 5 ∧ sGi S g x1 < sGi S f x1) by omega), hmx, ← ec]) hCz (MFr.trans (MFr.set MFr.refl (by omega) (by omega)) hFz))
                      · refine x_lload 1 dX10_of_167 rfl ?_
                        refine x_lload 0 dX10_of_169 rfl ?_
                        refine x_lsub dX10_of_171 (by unfold okJ; omega) ?_
                        refine x_goto 204 dX10_of_172 (by decide) ?_
                        refine x_nmJ (fun c0 e_c0 => ?_)
                        refine x_lstore (L' := [(9, vJ c0), (7, vJ ya), (5, vJ xa), (4, vI x1), (0, vA m), (1, vI w), (2, vI f), (3, vI g)]) dX10_of_204 (Nat.le_of_ble_eq_true rfl) rfl ?_
                        have ec : c0 = wayC w (sGi S f x1) (sGi S g x1) := by unfold wayC; (repeat' split) <;> omega
                        rw [← ec] at hwc
                        refine x_aload_n 4 dX10_of_206 rfl rfl ?_
                        refine x_iload 3 dX10_of_207 rfl ?_
                        refine x_lload 0 dX10_of_209 rfl ?_
                        refine x_callV [vI x1, vJ c0] dX10_of_211 kv_X10_87 rfl rfl ((hset_ne _ _ (by omega)).trans hm) (by omega) (Nat.le_of_ble_eq_true rfl) (by omega) (by omega) (k_X10_settle (d := 1) (by omega) (hM.made gv) hS (hset_eq _ _ _) (H := wayS w (sF S f) (sF S g) (max (sT S f) (sT S g) + x1)) htl9 (fun u q1 q2 => by have := way_bnd (k := 760) (n := (max (sT S f) (sT S g) + x1)) (B := 4000000000000) (cval_bnd (n := 760 + (max (sT S f) (sT S g) + x1)) (s3 f hf.1 hf.2) (by omega)) (cval_bnd (n := 760 + (max (sT S f) (sT S g) + x1)) (s3 g hg.1 hg.2) (by omega)) (cval_M (s3 f hf.1 hf.2)) (cval_M (s3 g hg.1 hg.2)) (by omega) (by omega) (by omega) w u q1 q2; exact ⟨this.1, Int.le_trans this.2 (by decide)⟩) (way_mono (cval_M (s3 f hf.1 hf.2)) (cval_M (s3 g hg.1 hg.2)) w _) (d0 := x1) (c0 := c0) (by omega) (by omega) (by omega) (by omega) (by omega) (by rw [ec]; exact fun q => round_of (fr := max 200 (sT S f + sT S g + x1)) (by omega) (way_turn (by omega) (by omega) hT0f hT0g (by omega) (by omega) (fun _ => by omega) hp1 hga.1 hPf hPg (fun t q1 q2 => q t (by omega) (by omega))) q)) (fun r9 h9 q9 => ?_)
                        obtain ⟨rfl, hCz, hFz⟩ := q9
                        exact x_ireturn dX10_of_214 rfl (by omega) (by omega) (outM (by rw [oOf, cond_f (fun z => z.elim (fun y => by omega) (fun y => y.elim (fun y => y p_17) (fun y => y p_25))), if_neg (show ¬ 60 ≤ sCu S by omega), if_neg (show ¬ sP S f g = -1 by omega), hx1, if_neg (show ¬ (w = 5 ∧ sGi S g x1 < sGi S f x1) by omega), hmx, ← ec]) hCz (MFr.trans (MFr.set MFr.refl (by omega) (by omega)) hFz))
                  · refine x_lload 1 dX10_of_136 rfl ?_
                    refine x_lload 0 dX10_of_138 rfl ?_
                    refine x_lc_le 149 dX10_of_140 dX10_of_141 (by decide) (fun c_140 => ?_) (fun c_140 => ?_)
                    · refine x_lload 0 dX10_of_149 rfl ?_
                      refine x_goto 204 dX10_of_151 (by decide) ?_
                      refine x_nmJ (fun c0 e_c0 => ?_)
                      refine x_lstore (L' := [(9, vJ c0), (7, vJ ya), (5, vJ xa), (4, vI x1), (0, vA m), (1, vI w), (2, vI f), (3, vI g)]) dX10_of_204 (Nat.le_of_ble_eq_true rfl) rfl ?_
                      have ec : c0 = wayC w (sGi S f x1) (sGi S g x1) := by unfold wayC; (repeat' split) <;> omega
                      rw [← ec] at hwc
                      refine x_aload_n 4 dX10_of_206 rfl rfl ?_
                      refine x_iload 3 dX10_of_207 rfl ?_
                      refine x_lload 0 dX10_of_209 rfl ?_
                      refine x_callV [vI x1, vJ c0] dX10_of_211 kv_X10_87 rfl rfl ((hset_ne _ _ (by omega)).trans hm) (by omega) (Nat.le_of_ble_eq_true rfl) (by omega) (by omega) (k_X10_settle (d := 1) (by omega) (hM.made gv) hS (hset_eq _ _ _) (H := wayS w (sF S f) (sF S g) (max (sT S f) (sT S g) + x1)) htl9 (fun u q1 q2 => by have := way_bnd (k := 760) (n := (max (sT S f) (sT S g) + x1)) (B := 4000000000000) (cval_bnd (n := 760 + (max (sT S f) (sT S g) + x1)) (s3 f hf.1 hf.2) (by omega)) (cval_bnd (n := 760 + (max (sT S f) (sT S g) + x1)) (s3 g hg.1 hg.2) (by omega)) (cval_M (s3 f hf.1 hf.2)) (cval_M (s3 g hg.1 hg.2)) (by omega) (by omega) (by omega) w u q1 q2; exact ⟨this.1, Int.le_trans this.2 (by decide)⟩) (way_mono (cval_M (s3 f hf.1 hf.2)) (cval_M (s3 g hg.1 hg.2)) w _) (d0 := x1) (c0 := c0) (by omega) (by omega) (by omega) (by omega) (by omega) (by rw [ec]; exact fun q => round_of (fr := max 200 (sT S f + sT S g + x1)) (by omega) (way_turn (by omega) (by omega) hT0f hT0g (by omega) (by omega) (fun _ => by omega) hp1 hga.1 hPf hPg (fun t q1 q2 => q t (by omega) (by omega))) q)) (fun r9 h9 q9 => ?_)
                      obtain ⟨rfl, hCz, hFz⟩ := q9
                      exact x_ireturn dX10_of_214 rfl (by omega) (by omega) (outM (by rw [oOf, cond_f (fun z => z.elim (fun y => by omega) (fun y => y.elim (fun y => y p_17) (fun y => y p_25))), if_neg (show ¬ 60 ≤ sCu S by omega), if_neg (show ¬ sP S f g = -1 by omega), hx1, if_neg (show ¬ (w = 5 ∧ sGi S g x1 < sGi S f x1) by omega), hmx, ← ec]) hCz (MFr.trans (MFr.set MFr.refl (by omega) (by omega)) hFz))
                    · refine x_lload 1 dX10_of_144 rfl ?_
                      refine x_goto 204 dX10_of_146 (by decide) ?_
                      refine x_nmJ (fun c0 e_c0 => ?_)
                      refine x_lstore (L' := [(9, vJ c0), (7, vJ ya), (5, vJ xa), (4, vI x1), (0, vA m), (1, vI w), (2, vI f), (3, vI g)]) dX10_of_204 (Nat.le_of_ble_eq_true rfl) rfl ?_
                      have ec : c0 = wayC w (sGi S f x1) (sGi S g x1) := by unfold wayC; (repeat' split) <;> omega
                      rw [← ec] at hwc
                      refine x_aload_n 4 dX10_of_206 rfl rfl ?_
                      refine x_iload 3 dX10_of_207 rfl ?_
                      refine x_lload 0 dX10_of_209 rfl ?_
                      refine x_callV [vI x1, vJ c0] dX10_of_211 kv_X10_87 rfl rfl ((hset_ne _ _ (by omega)).trans hm) (by omega) (Nat.le_of_ble_eq_true rfl) (by omega) (by omega) (k_X10_settle (d := 1) (by omega) (hM.made gv) hS (hset_eq _ _ _) (H := wayS w (sF S f) (sF S g) (max (sT S f) (sT S g) + x1)) htl9 (fun u q1 q2 => by have := way_bnd (k := 760) (n := (max (sT S f) (sT S g) + x1)) (B := 4000000000000) (cval_bnd (n := 760 + (max (sT S f) (sT S g) + x1)) (s3 f hf.1 hf.2) (by omega)) (cval_bnd (n := 760 + (max (sT S f) (sT S g) + x1)) (s3 g hg.1 hg.2) (by omega)) (cval_M (s3 f hf.1 hf.2)) (cval_M (s3 g hg.1 hg.2)) (by omega) (by omega) (by omega) w u q1 q2; exact ⟨this.1, Int.le_trans this.2 (by decide)⟩) (way_mono (cval_M (s3 f hf.1 hf.2)) (cval_M (s3 g hg.1 hg.2)) w _) (d0 := x1) (c0 := c0) (by omega) (by omega) (by omega) (by omega) (by omega) (by rw [ec]; exact fun q => round_of (fr := max 200 (sT S f + sT S g + x1)) (by omega) (way_turn (by omega) (by omega) hT0f hT0g (by omega) (by omega) (fun _ => by omega) hp1 hga.1 hPf hPg (fun t q1 q2 => q t (by omega) (by omega))) q)) (fun r9 h9 q9 => ?_)
                      obtain ⟨rfl, hCz, hFz⟩ := q9
                      exact x_ireturn dX10_of_214 rfl (by omega) (by omega) (outM (by rw [oOf, cond_f (fun z => z.elim (fun y => by omega) (fun y => y.elim (fun y => y p_17) (fun y => y p_25))), if_neg (show ¬ 60 ≤ sCu S by omega), if_neg (show ¬ sP S f g = -1 by omega), hx1, if_neg (show ¬ (w = 5 ∧ sGi S g x1 < sGi S f x1) by omega), hmx, ← ec]) hCz (MFr.trans (MFr.set MFr.refl (by omega) (by omega)) hFz))
                · refine x_lload 1 dX10_of_123 rfl ?_
                  refine x_lload 0 dX10_of_125 rfl ?_
                  refine x_ladd dX10_of_127 (by unfold okJ; omega) ?_
                  refine x_goto 204 dX10_of_128 (by decide) ?_
                  refine x_nmJ (fun c0 e_c0 => ?_)
                  refine x_lstore (L' := [(9, vJ c0), (7, vJ ya), (5, vJ xa), (4, vI x1), (0, vA m), (1, vI w), (2, vI f), (3, vI g)]) dX10_of_204 (Nat.le_of_ble_eq_true rfl) rfl ?_
                  have ec : c0 = wayC w (sGi S f x1) (sGi S g x1) := by unfold wayC; (repeat' split) <;> omega
                  rw [← ec] at hwc
                  refine x_aload_n 4 dX10_of_206 rfl rfl ?_
                  refine x_iload 3 dX10_of_207 rfl ?_
                  refine x_lload 0 dX10_of_209 rfl ?_
                  refine x_callV [vI x1, vJ c0] dX10_of_211 kv_X10_87 rfl rfl ((hset_ne _ _ (by omega)).trans hm) (by omega) (Nat.le_of_ble_eq_true rfl) (by omega) (by omega) (k_X10_settle (d := 1) (by omega) (hM.made gv) hS (hset_eq _ _ _) (H := wayS w (sF S f) (sF S g) (max (sT S f) (sT S g) + x1)) htl9 (fun u q1 q2 => by have := way_bnd (k := 760) (n := (max (sT S f) (sT S g) + x1)) (B := 4000000000000) (cval_bnd (n := 760 + (max (sT S f) (sT S g) + x1)) (s3 f hf.1 hf.2) (by omega)) (cval_bnd (n := 760 + (max (sT S f) (sT S g) + x1)) (s3 g hg.1 hg.2) (by omega)) (cval_M (s3 f hf.1 hf.2)) (cval_M (s3 g hg.1 hg.2)) (by omega) (by omega) (by omega) w u q1 q2; exact ⟨this.1, Int.le_trans this.2 (by decide)⟩) (way_mono (cval_M (s3 f hf.1 hf.2)) (cval_M (s3 g hg.1 hg.2)) w _) (d0 := x1) (c0 := c0) (by omega) (by omega) (by omega) (by omega) (by omega) (by rw [ec]; exact fun q => round_of (fr := max 200 (sT S f + sT S g + x1)) (by omega) (way_turn (by omega) (by omega) hT0f hT0g (by omega) (by omega) (fun _ => by omega) hp1 hga.1 hPf hPg (fun t q1 q2 => q t (by omega) (by omega))) q)) (fun r9 h9 q9 => ?_)
                  obtain ⟨rfl, hCz, hFz⟩ := q9
                  exact x_ireturn dX10_of_214 rfl (by omega) (by omega) (outM (by rw [oOf, cond_f (fun z => z.elim (fun y => by omega) (fun y => y.elim (fun y => y p_17) (fun y => y p_25))), if_neg (show ¬ 60 ≤ sCu S by omega), if_neg (show ¬ sP S f g = -1 by omega), hx1, if_neg (show ¬ (w = 5 ∧ sGi S g x1 < sGi S f x1) by omega), hmx, ← ec]) hCz (MFr.trans (MFr.set MFr.refl (by omega) (by omega)) hFz))
              · refine x_aload_n 3 dX10_of_103 rfl rfl ?_
                refine x_bipush dX10_of_104 (okI_c rfl) (by decide +kernel) ?_
                refine x_callV [vI ((-5))] dX10_of_106 kv_X10_58 rfl rfl hm (by omega) (Nat.le_of_ble_eq_true rfl) (by omega) (by omega) (k_X10_refuse (d := 0) (S := S)  (hM)) (fun r1 h1 q1 => ?_)
                obtain ⟨rfl, hCz, hFz⟩ := q1
                exact x_ireturn dX10_of_109 rfl (by omega) (by omega) (outM (by rw [oOf, cond_f (fun z => z.elim (fun y => by omega) (fun y => y.elim (fun y => y p_17) (fun y => y p_25))), if_neg (show ¬ 60 ≤ sCu S by omega), if_neg (show ¬ sP S f g = -1 by omega), hx1, if_pos (show w = 5 ∧ sGi S g x1 < sGi S f x1 by omega)]; rfl) hCz (MFr.trans MFr.refl hFz))
          · refine x_aload_n 1 dX10_of_65 rfl rfl ?_
            refine x_bipush dX10_of_66 (okI_c rfl) (by decide +kernel) ?_
            refine x_callV [vI ((-4))] dX10_of_68 kv_X10_58 rfl rfl hm (by omega) (Nat.le_of_ble_eq_true rfl) (by omega) (by omega) (k_X10_refuse (d := 0) (S := S)  (hM)) (fun r1 h1 q1 => ?_)
            obtain ⟨rfl, hCz, hFz⟩ := q1
            exact x_ireturn dX10_of_71 rfl (by omega) (by omega) (outM (by rw [oOf, cond_f (fun z => z.elim (fun y => by omega) (fun y => y.elim (fun y => y p_17) (fun y => y p_25))), if_neg (show ¬ 60 ≤ sCu S by omega), if_pos (hxn (by omega))]; rfl) hCz (MFr.trans MFr.refl hFz))
        · refine x_aload_n 0 dX10_of_43 rfl rfl ?_
          refine x_bipush dX10_of_44 (okI_c rfl) (by decide +kernel) ?_
          refine x_callV [vI ((-3))] dX10_of_46 kv_X10_58 rfl rfl hm (by omega) (Nat.le_of_ble_eq_true rfl) (by omega) (by omega) (k_X10_refuse (d := 0) (S := S)  (hM)) (fun r1 h1 q1 => ?_)
          obtain ⟨rfl, hCz, hFz⟩ := q1
          exact x_ireturn dX10_of_49 rfl (by omega) (by omega) (outM (by rw [oOf, cond_f (fun z => z.elim (fun y => by omega) (fun y => y.elim (fun y => y p_17) (fun y => y p_25))), if_pos (by omega)]; rfl) hCz (MFr.trans MFr.refl hFz))
      · have p_25 := b2i_eq c_25
        refine x_aload_n 0 dX10_of_28 rfl rfl ?_
        refine x_iconst dX10_of_29 (okI_c rfl) ?_
        refine x_callV [vI ((-1))] dX10_of_30 kv_X10_58 rfl rfl hm (by omega) (Nat.le_of_ble_eq_true rfl) (by omega) (by omega) (k_X10_refuse (d := 0) (S := S)  (hM)) (fun r1 h1 q1 => ?_)
        obtain ⟨rfl, hCz, hFz⟩ := q1
        exact x_ireturn dX10_of_33 rfl (by omega) (by omega) (outM (by rw [oOf, cond_t (by first | exact Or.inr (Or.inl p_17) | exact Or.inr (Or.inr p_25) | exact Or.inl (by omega))]; rfl) hCz (MFr.trans MFr.refl hFz))
