/-! ===== FlowCurvesModel: make, of, times, shift, ray ===== -/
theorem MRel.made {m b1 b2 b3 b4 b5 b6 b7 b8 b9 lo hi : Nat} {S : aS} {h : aH} (hM : MRel m b1 b2 b3 b4 b5 b6 b7 b8 b9 lo hi S h) (g9 : Nat → Int) : MRel m b1 b2 b3 b4 b5 b6 b7 b8 b9 lo hi S (hset h b9 (eJ 760 g9)) := by
  obtain ⟨⟨o0, o1, o2, o3, o4, o5, o6, o7, o8, o9, oA⟩, hm, ⟨gT, gD, gC, gK, gA, hb1, hb2, hb3, hb4, hb5, hcu⟩, ⟨fr, hb6, hrw⟩, ⟨sm, hb7, hsm⟩, ⟨g8, hb8, htl⟩, ⟨gw, hb9⟩⟩ := id hM
  exact ⟨⟨o0, o1, o2, o3, o4, o5, o6, o7, o8, o9, oA⟩, ((hset_ne _ _ (by omega)).trans hm), ⟨gT, gD, gC, gK, gA, ((hset_ne _ _ (by omega)).trans hb1), ((hset_ne _ _ (by omega)).trans hb2), ((hset_ne _ _ (by omega)).trans hb3), ((hset_ne _ _ (by omega)).trans hb4), ((hset_ne _ _ (by omega)).trans hb5), hcu⟩, ⟨fr, ((hset_ne _ _ (by omega)).trans hb6), hrw⟩, ⟨sm, ((hset_ne _ _ (by omega)).trans hb7), hsm⟩, ⟨g8, ((hset_ne _ _ (by omega)).trans hb8), htl⟩, ⟨_, (hset_eq _ _ _)⟩⟩
set_option maxRecDepth 100000 in
set_option maxHeartbeats 4000000 in
theorem k_X10_make {G : aG} {d : Nat} (hd : 2 ≤ d) {m b1 b2 b3 b4 b5 b6 b7 b8 b9 lo hi : Nat} {S : aS} {nc : Nat} {h : aH} (hM : MRel m b1 b2 b3 b4 b5 b6 b7 b8 b9 lo hi S h) (hS : SOk nc S) {w f g p : Int} (hf : isC S f) (hg : isC S g) (hw0 : 0 ≤ w) (hw5 : w ≤ 5) (hp0 : 0 ≤ p) (hp : p ≤ 60) : MC G mX10_make d 0 0 [vA m, vI w, vI f, vI g, vI p] h (fun r' h' => r' = none ∧ ∃ gv : Nat → Int, h' = hset h b9 (eJ 760 gv) ∧ Tells gv (wayS w (sF S f) (sF S g) (max (sT S f) (sT S g) + p)) 760) := by
  obtain ⟨⟨o0, o1, o2, o3, o4, o5, o6, o7, o8, o9, oA⟩, hm, ⟨gT, gD, gC, gK, gA, hb1, hb2, hb3, hb4, hb5, hcu⟩, ⟨fr, hb6, hrw⟩, ⟨sm, hb7, hsm⟩, ⟨g8, hb8, htl⟩, ⟨gw, hb9⟩⟩ := id hM
  obtain ⟨⟨s1, s2⟩, s3, ⟨s4, s5⟩, ⟨s6, s7, s8⟩, s9, ⟨s10, s11⟩, s12⟩ := id hS
  refine MC.of (by decide) (Nat.le_of_ble_eq_true rfl) (fun ok okh => ?_)
  show EX G mX10_make d 0 0 _ 0 [(0, vA m), (1, vI w), (2, vI f), (3, vI g), (4, vI p)] [] h 0 0
  refine x_lconst (x := 0) dX10_make_0 (okJ_c rfl) rfl ?_
  refine x_lstore (L' := [(5, vJ 0), (0, vA m), (1, vI w), (2, vI f), (3, vI g), (4, vI p)]) dX10_make_1 (Nat.le_of_ble_eq_true rfl) rfl ?_
  refine x_iconst dX10_make_3 (okI_c rfl) ?_
  refine x_istore (L' := [(7, vI 0), (5, vJ 0), (0, vA m), (1, vI w), (2, vI f), (3, vI g), (4, vI p)]) dX10_make_4 (Nat.le_of_ble_eq_true rfl) rfl ?_
  have loop_6 : ∀ (k_6 : Nat) (v : Int) (t : Int) (gv : Nat → Int), (760 - t).toNat < k_6 → (0 ≤ t) → (t ≤ 760) → (v = sup0 (fun s => sF S f s - sF S g s) t.toNat) → (Tells gv (wayS w (sF S f) (sF S g) (max (sT S f) (sT S g) + p)) t) → EX G mX10_make d 0 0 (fun r' h' => r' = none ∧ ∃ gv : Nat → Int, h' = hset h b9 (eJ 760 gv) ∧ Tells gv (wayS w (sF S f) (sF S g) (max (sT S f) (sT S g) + p)) 760) 6 [(0, vA m), (1, vI w), (2, vI f), (3, vI g), (4, vI p), (5, vJ v), (7, vI t)] [] (hset h b9 (eJ 760 gv)) 0 0 := by
    intro k_6
    induction k_6 with
    | zero => intro v t gv hm; exact absurd hm (Nat.not_lt_zero _)
    | succ k_6 ih_6 =>
      intro v t gv hm_6 ht0 ht1 hr htl9
      refine x_iload 6 dX10_make_6 rfl ?_
      refine x_sipush dX10_make_8 (okI_c rfl) (by decide +kernel) ?_
      refine x_icmp_ge 164 dX10_make_11 (by decide) (fun c_11 => ?_) (fun c_11 => ?_)
      · exact x_return dX10_make_164 rfl (by decide) (by decide) ⟨rfl, gv, rfl, by rw [show (760 : Int) = t by omega]; exact htl9⟩
      · have w1 : 0 ≤ sF S f (t) ∧ sF S f (t) ≤ 4000000000000 := cval_bnd (n := 3000) (s3 f hf.1 hf.2) (Int.le_refl _) (t) (by omega) (by omega)
        have w2 : 0 ≤ sF S g (t) ∧ sF S g (t) ≤ 4000000000000 := cval_bnd (n := 3000) (s3 g hg.1 hg.2) (Int.le_refl _) (t) (by omega) (by omega)
        have hW0 : w = 0 → wayS w (sF S f) (sF S g) (max (sT S f) (sT S g) + p) t = sF S f t + sF S g t := fun q => by rw [wayS, if_pos (by omega), sideS, if_pos q]
        have hW1 : w = 1 → wayS w (sF S f) (sF S g) (max (sT S f) (sT S g) + p) t = min (sF S f t) (sF S g t) := fun q => by rw [wayS, if_pos (by omega), sideS, if_neg (by omega), if_pos q]
        have hW2 : w = 2 → wayS w (sF S f) (sF S g) (max (sT S f) (sT S g) + p) t = max (sF S f t) (sF S g t) := fun q => by rw [wayS, if_pos (by omega), sideS, if_neg (by omega), if_neg (by omega)]
        have hW3 : w = 3 → wayS w (sF S f) (sF S g) (max (sT S f) (sT S g) + p) t = max v (sF S f t - sF S g t) := fun q => by rw [wayS, if_neg (by omega), if_pos q, restS, sup0_s ht0, ← hr]
        have hW4 : w = 4 → wayS w (sF S f) (sF S g) (max (sT S f) (sT S g) + p) t = bothS (sF S f) (sF S g) t := fun q => by rw [wayS, if_neg (by omega), if_neg (by omega), if_pos q]
        have hW5 : w = 5 → wayS w (sF S f) (sF S g) (max (sT S f) (sT S g) + p) t = offS (sF S f) (sF S g) (max (sT S f) (sT S g) + p) t := fun q => by rw [wayS, if_neg (by omega), if_neg (by omega), if_neg (by omega)]
        refine x_aload_n 0 dX10_make_14 rfl rfl ?_
        refine x_iload_n 2 dX10_make_15 rfl rfl ?_
        refine x_iload 6 dX10_make_16 rfl ?_
        refine x_i2l dX10_make_18 ?_
        refine x_callV [vI f, vJ t] dX10_make_19 kv_X10_95 rfl rfl ((hset_ne _ _ (by omega)).trans hm) (by omega) (Nat.le_of_ble_eq_true rfl) (by omega) (by omega) (k_X10_value (d := 0) (hM.made gv) hS (f := f) (t := t) hf (by omega) (by omega)) (after_ret ?_)
        refine x_nmJ (fun x e_x => ?_)
        refine x_lstore (L' := [(8, vJ x), (0, vA m), (1, vI w), (2, vI f), (3, vI g), (4, vI p), (5, vJ v), (7, vI t)]) dX10_make_22 (Nat.le_of_ble_eq_true rfl) rfl ?_
        refine x_aload_n 1 dX10_make_24 rfl rfl ?_
        refine x_iload_n 4 dX10_make_25 rfl rfl ?_
        refine x_iload 7 dX10_make_26 rfl ?_
        refine x_i2l dX10_make_28 ?_
        refine x_callV [vI g, vJ t] dX10_make_29 kv_X10_95 rfl rfl ((hset_ne _ _ (by omega)).trans hm) (by omega) (Nat.le_of_ble_eq_true rfl) (by omega) (by omega) (k_X10_value (d := 0) (hM.made gv) hS (f := g) (t := t) hg (by omega) (by omega)) (after_ret ?_)
        refine x_nmJ (fun y e_y => ?_)
        refine x_lstore (L' := [(10, vJ y), (8, vJ x), (0, vA m), (1, vI w), (2, vI f), (3, vI g), (4, vI p), (5, vJ v), (7, vI t)]) dX10_make_32 (Nat.le_of_ble_eq_true rfl) rfl ?_
        refine x_lload 1 dX10_make_34 rfl ?_
        refine x_lload 0 dX10_make_36 rfl ?_
        refine x_lsub dX10_make_38 (by unfold okJ; omega) ?_
        refine x_lload 7 dX10_make_39 rfl ?_
        refine x_lc_le 53 dX10_make_41 dX10_make_42 (by decide) (fun c_41 => ?_) (fun c_41 => ?_)
        · refine x_lload 7 dX10_make_53 rfl ?_
          refine x_lstore (L' := [(5, vJ v), (10, vJ y), (8, vJ x), (0, vA m), (1, vI w), (2, vI f), (3, vI g), (4, vI p), (7, vI t)]) dX10_make_55 (Nat.le_of_ble_eq_true rfl) rfl ?_
          refine x_aload_n 3 dX10_make_57 rfl rfl ?_
          refine x_get 14 dX10_make_58 fl_X10_39 ((hset_ne _ _ (by omega)).trans hm) rfl ?_
          refine x_iload 8 dX10_make_61 rfl ?_
          refine x_iload_n 4 dX10_make_63 rfl rfl ?_
          refine x_if_ne 75 dX10_make_64 (by decide) (fun c_64 => ?_) (fun c_64 => ?_)
          · refine x_iload_n 4 dX10_make_75 rfl rfl ?_
            refine x_iconst dX10_make_76 (okI_c rfl) ?_
            refine x_icmp_ne 98 dX10_make_77 (by decide) (fun c_77 => ?_) (fun c_77 => ?_)
            · refine x_iload_n 4 dX10_make_98 rfl rfl ?_
              refine x_iconst dX10_make_99 (okI_c rfl) ?_
              refine x_icmp_ne 121 dX10_make_100 (by decide) (fun c_100 => ?_) (fun c_100 => ?_)
              · refine x_iload_n 4 dX10_make_121 rfl rfl ?_
                refine x_iconst dX10_make_122 (okI_c rfl) ?_
                refine x_icmp_ne 131 dX10_make_123 (by decide) (fun c_123 => ?_) (fun c_123 => ?_)
                · refine x_iload_n 4 dX10_make_131 rfl rfl ?_
                  refine x_iconst dX10_make_132 (okI_c rfl) ?_
                  refine x_icmp_ne 147 dX10_make_133 (by decide) (fun c_133 => ?_) (fun c_133 => ?_)
                  · refine x_aload_n 3 dX10_make_147 rfl rfl ?_
                    refine x_iload_n 5 dX10_make_148 rfl rfl ?_
                    refine x_iload_n 6 dX10_make_149 rfl rfl ?_
                    refine x_iload 8 dX10_make_150 rfl ?_
                    refine x_iload 7 dX10_make_152 rfl ?_
                    refine x_callV [vI f, vI g, vI t, vI p] dX10_make_154 kv_X10_103 rfl rfl ((hset_ne _ _ (by omega)).trans hm) (by omega) (Nat.le_of_ble_eq_true rfl) (by omega) (by omega) (k_X10_most (d := 1) (by omega) (hM.made gv) hS (f := f) (g := g) (t := t) (p := p) hf hg (by omega) (by omega) (by omega) (by omega)) (after_ret ?_)
                    refine x_lastore dX10_make_157 (hset_eq _ _ _) (by omega) (by omega) ?_
                    refine x_iinc 8 (L' := [(7, vI (t + 1)), (5, vJ v), (10, vJ y), (8, vJ x), (0, vA m), (1, vI w), (2, vI f), (3, vI g), (4, vI p)]) dX10_make_158 rfl (by unfold okI; omega) (Nat.le_of_ble_eq_true rfl) rfl ?_
                    refine x_goto 6 dX10_make_161 (by decide) ?_
                    exact EX.pick [4, 5, 6, 7, 8, 1, 0] rfl (x_ash (hset_hset _ _ _ _) (ih_6 v (t + 1) (va_up gv t.toNat ((offS (sF S f) (sF S g) (max (sT S f) (sT S g) + p) t))) (by omega) (by omega) (by omega) (by rw [sup0_s ht0, ← hr]; show _ = max v (sF S f t - sF S g t); omega) (htl9.up ht0 (by omega))))
                  · refine x_aload_n 3 dX10_make_136 rfl rfl ?_
                    refine x_iload_n 5 dX10_make_137 rfl rfl ?_
                    refine x_iload_n 6 dX10_make_138 rfl rfl ?_
                    refine x_iload 8 dX10_make_139 rfl ?_
                    refine x_callV [vI f, vI g, vI t] dX10_make_141 kv_X10_99 rfl rfl ((hset_ne _ _ (by omega)).trans hm) (by omega) (Nat.le_of_ble_eq_true rfl) (by omega) (by omega) (k_X10_least (d := 1) (by omega) (hM.made gv) hS (f := f) (g := g) (t := t) hf hg (by omega) (by omega)) (after_ret ?_)
                    refine x_goto 157 dX10_make_144 (by decide) ?_
                    refine x_lastore dX10_make_157 (hset_eq _ _ _) (by omega) (by omega) ?_
                    refine x_iinc 8 (L' := [(7, vI (t + 1)), (5, vJ v), (10, vJ y), (8, vJ x), (0, vA m), (1, vI w), (2, vI f), (3, vI g), (4, vI p)]) dX10_make_158 rfl (by unfold okI; omega) (Nat.le_of_ble_eq_true rfl) rfl ?_
                    refine x_goto 6 dX10_make_161 (by decide) ?_
                    exact EX.pick [4, 5, 6, 7, 8, 1, 0] rfl (x_ash (hset_hset _ _ _ _) (ih_6 v (t + 1) (va_up gv t.toNat ((bothS (sF S f) (sF S g) t))) (by omega) (by omega) (by omega) (by rw [sup0_s ht0, ← hr]; show _ = max v (sF S f t - sF S g t); omega) (htl9.up ht0 (by omega))))
                · refine x_lload 0 dX10_make_126 rfl ?_
                  refine x_goto 157 dX10_make_128 (by decide) ?_
                  refine x_lastore dX10_make_157 (hset_eq _ _ _) (by omega) (by omega) ?_
                  refine x_iinc 8 (L' := [(7, vI (t + 1)), (5, vJ v), (10, vJ y), (8, vJ x), (0, vA m), (1, vI w), (2, vI f), (3, vI g), (4, vI p)]) dX10_make_158 rfl (by unfold okI; omega) (Nat.le_of_ble_eq_true rfl) rfl ?_
                  refine x_goto 6 dX10_make_161 (by decide) ?_
                  exact EX.pick [4, 5, 6, 7, 8, 1, 0] rfl (x_ash (hset_hset _ _ _ _) (ih_6 v (t + 1) (va_up gv t.toNat v) (by omega) (by omega) (by omega) (by rw [sup0_s ht0, ← hr]; show _ = max v (sF S f t - sF S g t); omega) (htl9.up ht0 (by omega))))
              · refine x_lload 2 dX10_make_103 rfl ?_
                refine x_lload 1 dX10_make_105 rfl ?_
                refine x_lc_le 116 dX10_make_107 dX10_make_108 (by decide) (fun c_107 => ?_) (fun c_107 => ?_)
                · refine x_lload 1 dX10_make_116 rfl ?_
                  refine x_goto 157 dX10_make_118 (by decide) ?_
                  refine x_lastore dX10_make_157 (hset_eq _ _ _) (by omega) (by omega) ?_
                  refine x_iinc 8 (L' := [(7, vI (t + 1)), (5, vJ v), (10, vJ y), (8, vJ x), (0, vA m), (1, vI w), (2, vI f), (3, vI g), (4, vI p)]) dX10_make_158 rfl (by unfold okI; omega) (Nat.le_of_ble_eq_true rfl) rfl ?_
                  refine x_goto 6 dX10_make_161 (by decide) ?_
                  exact EX.pick [4, 5, 6, 7, 8, 1, 0] rfl (x_ash (hset_hset _ _ _ _) (ih_6 v (t + 1) (va_up gv t.toNat y) (by omega) (by omega) (by omega) (by rw [sup0_s ht0, ← hr]; show _ = max v (sF S f t - sF S g t); omega) (htl9.up ht0 (by omega))))
                · refine x_lload 2 dX10_make_111 rfl ?_
                  refine x_goto 157 dX10_make_113 (by decide) ?_
                  refine x_lastore dX10_make_157 (hset_eq _ _ _) (by omega) (by omega) ?_
                  refine x_iinc 8 (L' := [(7, vI (t + 1)), (5, vJ v), (10, vJ y), (8, vJ x), (0, vA m), (1, vI w), (2, vI f), (3, vI g), (4, vI p)]) dX10_make_158 rfl (by unfold okI; omega) (Nat.le_of_ble_eq_true rfl) rfl ?_
                  refine x_goto 6 dX10_make_161 (by decide) ?_
                  exact EX.pick [4, 5, 6, 7, 8, 1, 0] rfl (x_ash (hset_hset _ _ _ _) (ih_6 v (t + 1) (va_up gv t.toNat x) (by omega) (by omega) (by omega) (by rw [sup0_s ht0, ← hr]; show _ = max v (sF S f t - sF S g t); omega) (htl9.up ht0 (by omega))))
            · refine x_lload 2 dX10_make_80 rfl ?_
              refine x_lload 1 dX10_make_82 rfl ?_
              refine x_lc_ge 93 dX10_make_84 dX10_make_85 (by decide) (fun c_84 => ?_) (fun c_84 => ?_)
              · refine x_lload 1 dX10_make_93 rfl ?_
                refine x_goto 157 dX10_make_95 (by decide) ?_
                refine x_lastore dX10_make_157 (hset_eq _ _ _) (by omega) (by omega) ?_
                refine x_iinc 8 (L' := [(7, vI (t + 1)), (5, vJ v), (10, vJ y), (8, vJ x), (0, vA m), (1, vI w), (2, vI f), (3, vI g), (4, vI p)]) dX10_make_158 rfl (by unfold okI; omega) (Nat.le_of_ble_eq_true rfl) rfl ?_
                refine x_goto 6 dX10_make_161 (by decide) ?_
                exact EX.pick [4, 5, 6, 7, 8, 1, 0] rfl (x_ash (hset_hset _ _ _ _) (ih_6 v (t + 1) (va_up gv t.toNat y) (by omega) (by omega) (by omega) (by rw [sup0_s ht0, ← hr]; show _ = max v (sF S f t - sF S g t); omega) (htl9.up ht0 (by omega))))
              · refine x_lload 2 dX10_make_88 rfl ?_
                refine x_goto 157 dX10_make_90 (by decide) ?_
                refine x_lastore dX10_make_157 (hset_eq _ _ _) (by omega) (by omega) ?_
                refine x_iinc 8 (L' := [(7, vI (t + 1)), (5, vJ v), (10, vJ y), (8, vJ x), (0, vA m), (1, vI w), (2, vI f), (3, vI g), (4, vI p)]) dX10_make_158 rfl (by unfold okI; omega) (Nat.le_of_ble_eq_true rfl) rfl ?_
                refine x_goto 6 dX10_make_161 (by decide) ?_
                exact EX.pick [4, 5, 6, 7, 8, 1, 0] rfl (x_ash (hset_hset _ _ _ _) (ih_6 v (t + 1) (va_up gv t.toNat x) (by omega) (by omega) (by omega) (by rw [sup0_s ht0, ← hr]; show _ = max v (sF S f t - sF S g t); omega) (htl9.up ht0 (by omega))))
          · refine x_lload 2 dX10_make_67 rfl ?_
            refine x_lload 1 dX10_make_69 rfl ?_
            refine x_ladd dX10_make_71 (by unfold okJ; omega) ?_
            refine x_goto 157 dX10_make_72 (by decide) ?_
            refine x_lastore dX10_make_157 (hset_eq _ _ _) (by omega) (by omega) ?_
            refine x_iinc 8 (L' := [(7, vI (t + 1)), (5, vJ v), (10, vJ y), (8, vJ x), (0, vA m), (1, vI w), (2, vI f), (3, vI g), (4, vI p)]) dX10_make_158 rfl (by unfold okI; omega) (Nat.le_of_ble_eq_true rfl) rfl ?_
            refine x_goto 6 dX10_make_161 (by decide) ?_
            exact EX.pick [4, 5, 6, 7, 8, 1, 0] rfl (x_ash (hset_hset _ _ _ _) (ih_6 v (t + 1) (va_up gv t.toNat (x + y)) (by omega) (by omega) (by omega) (by rw [sup0_s ht0, ← hr]; show _ = max v (sF S f t - sF S g t); omega) (htl9.up ht0 (by omega))))
        · refine x_lload 1 dX10_make_45 rfl ?_
          refine x_lload 0 dX10_make_47 rfl ?_
          refine x_lsub dX10_make_49 (by unfold okJ; omega) ?_
          refine x_goto 55 dX10_make_50 (by decide) ?_
          refine x_nmJ (fun x1 e_x1 => ?_)
          refine x_lstore (L' := [(5, vJ x1), (10, vJ y), (8, vJ x), (0, vA m), (1, vI w), (2, vI f), (3, vI g), (4, vI p), (7, vI t)]) dX10_make_55 (Nat.le_of_ble_eq_true rfl) rfl ?_
          refine x_aload_n 3 dX10_make_57 rfl rfl ?_
          refine x_get 14 dX10_make_58 fl_X10_39 ((hset_ne _ _ (by omega)).trans hm) rfl ?_
          refine x_iload 8 dX10_make_61 rfl ?_
          refine x_iload_n 4 dX10_make_63 rfl rfl ?_
          refine x_if_ne 75 dX10_make_64 (by decide) (fun c_64 => ?_) (fun c_64 => ?_)
          · refine x_iload_n 4 dX10_make_75 rfl rfl ?_
            refine x_iconst dX10_make_76 (okI_c rfl) ?_
            refine x_icmp_ne 98 dX10_make_77 (by decide) (fun c_77 => ?_) (fun c_77 => ?_)
            · refine x_iload_n 4 dX10_make_98 rfl rfl ?_
              refine x_iconst dX10_make_99 (okI_c rfl) ?_
              refine x_icmp_ne 121 dX10_make_100 (by decide) (fun c_100 => ?_) (fun c_100 => ?_)
              · refine x_iload_n 4 dX10_make_121 rfl rfl ?_
                refine x_iconst dX10_make_122 (okI_c rfl) ?_
                refine x_icmp_ne 131 dX10_make_123 (by decide) (fun c_123 => ?_) (fun c_123 => ?_)
                · refine x_iload_n 4 dX10_make_131 rfl rfl ?_
                  refine x_iconst dX10_make_132 (okI_c rfl) ?_
                  refine x_icmp_ne 147 dX10_make_133 (by decide) (fun c_133 => ?_) (fun c_133 => ?_)
                  · refine x_aload_n 3 dX10_make_147 rfl rfl ?_
                    refine x_iload_n 5 dX10_make_148 rfl rfl ?_
                    refine x_iload_n 6 dX10_make_149 rfl rfl ?_
                    refine x_iload 8 dX10_make_150 rfl ?_
                    refine x_iload 7 dX10_make_152 rfl ?_
                    refine x_callV [vI f, vI g, vI t, vI p] dX10_make_154 kv_X10_103 rfl rfl ((hset_ne _ _ (by omega)).trans hm) (by omega) (Nat.le_of_ble_eq_true rfl) (by omega) (by omega) (k_X10_most (d := 1) (by omega) (hM.made gv) hS (f := f) (g := g) (t := t) (p := p) hf hg (by omega) (by omega) (by omega) (by omega)) (after_ret ?_)
                    refine x_lastore dX10_make_157 (hset_eq _ _ _) (by omega) (by omega) ?_
                    refine x_iinc 8 (L' := [(7, vI (t + 1)), (5, vJ x1), (10, vJ y), (8, vJ x), (0, vA m), (1, vI w), (2, vI f), (3, vI g), (4, vI p)]) dX10_make_158 rfl (by unfold okI; omega) (Nat.le_of_ble_eq_true rfl) rfl ?_
                    refine x_goto 6 dX10_make_161 (by decide) ?_
                    exact EX.pick [4, 5, 6, 7, 8, 1, 0] rfl (x_ash (hset_hset _ _ _ _) (ih_6 x1 (t + 1) (va_up gv t.toNat ((offS (sF S f) (sF S g) (max (sT S f) (sT S g) + p) t))) (by omega) (by omega) (by omega) (by rw [sup0_s ht0, ← hr]; show _ = max v (sF S f t - sF S g t); omega) (htl9.up ht0 (by omega))))
                  · refine x_aload_n 3 dX10_make_136 rfl rfl ?_
                    refine x_iload_n 5 dX10_make_137 rfl rfl ?_
                    refine x_iload_n 6 dX10_make_138 rfl rfl ?_
                    refine x_iload 8 dX10_make_139 rfl ?_
                    refine x_callV [vI f, vI g, vI t] dX10_make_141 kv_X10_99 rfl rfl ((hset_ne _ _ (by omega)).trans hm) (by omega) (Nat.le_of_ble_eq_true rfl) (by omega) (by omega) (k_X10_least (d := 1) (by omega) (hM.made gv) hS (f := f) (g := g) (t := t) hf hg (by omega) (by omega)) (after_ret ?_)
                    refine x_goto 157 dX10_make_144 (by decide) ?_
                    refine x_lastore dX10_make_157 (hset_eq _ _ _) (by omega) (by omega) ?_
                    refine x_iinc 8 (L' := [(7, vI (t + 1)), (5, vJ x1), (10, vJ y), (8, vJ x), (0, vA m), (1, vI w), (2, vI f), (3, vI g), (4, vI p)]) dX10_make_158 rfl (by unfold okI; omega) (Nat.le_of_ble_eq_true rfl) rfl ?_
                    refine x_goto 6 dX10_make_161 (by decide) ?_
                    exact EX.pick [4, 5, 6, 7, 8, 1, 0] rfl (x_ash (hset_hset _ _ _ _) (ih_6 x1 (t + 1) (va_up gv t.toNat ((bothS (sF S f) (sF S g) t))) (by omega) (by omega) (by omega) (by rw [sup0_s ht0, ← hr]; show _ = max v (sF S f t - sF S g t); omega) (htl9.up ht0 (by omega))))
                · refine x_lload 0 dX10_make_126 rfl ?_
                  refine x_goto 157 dX10_make_128 (by decide) ?_
                  refine x_lastore dX10_make_157 (hset_eq _ _ _) (by omega) (by omega) ?_
                  refine x_iinc 8 (L' := [(7, vI (t + 1)), (5, vJ x1), (10, vJ y), (8, vJ x), (0, vA m), (1, vI w), (2, vI f), (3, vI g), (4, vI p)]) dX10_make_158 rfl (by unfold okI; omega) (Nat.le_of_ble_eq_true rfl) rfl ?_
                  refine x_goto 6 dX10_make_161 (by decide) ?_
                  exact EX.pick [4, 5, 6, 7, 8, 1, 0] rfl (x_ash (hset_hset _ _ _ _) (ih_6 x1 (t + 1) (va_up gv t.toNat x1) (by omega) (by omega) (by omega) (by rw [sup0_s ht0, ← hr]; show _ = max v (sF S f t - sF S g t); omega) (htl9.up ht0 (by omega))))
              · refine x_lload 2 dX10_make_103 rfl ?_
                refine x_lload 1 dX10_make_105 rfl ?_
                refine x_lc_le 116 dX10_make_107 dX10_make_108 (by decide) (fun c_107 => ?_) (fun c_107 => ?_)
                · refine x_lload 1 dX10_make_116 rfl ?_
                  refine x_goto 157 dX10_make_118 (by decide) ?_
                  refine x_lastore dX10_make_157 (hset_eq _ _ _) (by omega) (by omega) ?_
                  refine x_iinc 8 (L' := [(7, vI (t + 1)), (5, vJ x1), (10, vJ y), (8, vJ x), (0, vA m), (1, vI w), (2, vI f), (3, vI g), (4, vI p)]) dX10_make_158 rfl (by unfold okI; omega) (Nat.le_of_ble_eq_true rfl) rfl ?_
                  refine x_goto 6 dX10_make_161 (by decide) ?_
                  exact EX.pick [4, 5, 6, 7, 8, 1, 0] rfl (x_ash (hset_hset _ _ _ _) (ih_6 x1 (t + 1) (va_up gv t.toNat y) (by omega) (by omega) (by omega) (by rw [sup0_s ht0, ← hr]; show _ = max v (sF S f t - sF S g t); omega) (htl9.up ht0 (by omega))))
                · refine x_lload 2 dX10_make_111 rfl ?_
                  refine x_goto 157 dX10_make_113 (by decide) ?_
                  refine x_lastore dX10_make_157 (hset_eq _ _ _) (by omega) (by omega) ?_
                  refine x_iinc 8 (L' := [(7, vI (t + 1)), (5, vJ x1), (10, vJ y), (8, vJ x), (0, vA m), (1, vI w), (2, vI f), (3, vI g), (4, vI p)]) dX10_make_158 rfl (by unfold okI; omega) (Nat.le_of_ble_eq_true rfl) rfl ?_
                  refine x_goto 6 dX10_make_161 (by decide) ?_
                  exact EX.pick [4, 5, 6, 7, 8, 1, 0] rfl (x_ash (hset_hset _ _ _ _) (ih_6 x1 (t + 1) (va_up gv t.toNat x) (by omega) (by omega) (by omega) (by rw [sup0_s ht0, ← hr]; show _ = max v (sF S f t - sF S g t); omega) (htl9.up ht0 (by omega))))
            · refine x_lload 2 dX10_make_80 rfl ?_
              refine x_lload 1 dX10_make_82 rfl ?_
              refine x_lc_ge 93 dX10_make_84 dX10_make_85 (by decide) (fun c_84 => ?_) (fun c_84 => ?_)
              · refine x_lload 1 dX10_make_93 rfl ?_
                refine x_goto 157 dX10_make_95 (by decide) ?_
                refine x_lastore dX10_make_157 (hset_eq _ _ _) (by omega) (by omega) ?_
                refine x_iinc 8 (L' := [(7, vI (t + 1)), (5, vJ x1), (10, vJ y), (8, vJ x), (0, vA m), (1, vI w), (2, vI f), (3, vI g), (4, vI p)]) dX10_make_158 rfl (by unfold okI; omega) (Nat.le_of_ble_eq_true rfl) rfl ?_
                refine x_goto 6 dX10_make_161 (by decide) ?_
                exact EX.pick [4, 5, 6, 7, 8, 1, 0] rfl (x_ash (hset_hset _ _ _ _) (ih_6 x1 (t + 1) (va_up gv t.toNat y) (by omega) (by omega) (by omega) (by rw [sup0_s ht0, ← hr]; show _ = max v (sF S f t - sF S g t); omega) (htl9.up ht0 (by omega))))
              · refine x_lload 2 dX10_make_88 rfl ?_
                refine x_goto 157 dX10_make_90 (by decide) ?_
                refine x_lastore dX10_make_157 (hset_eq _ _ _) (by omega) (by omega) ?_
                refine x_iinc 8 (L' := [(7, vI (t + 1)), (5, vJ x1), (10, vJ y), (8, vJ x), (0, vA m), (1, vI w), (2, vI f), (3, vI g), (4, vI p)]) dX10_make_158 rfl (by unfold okI; omega) (Nat.le_of_ble_eq_true rfl) rfl ?_
                refine x_goto 6 dX10_make_161 (by decide) ?_
                exact EX.pick [4, 5, 6, 7, 8, 1, 0] rfl (x_ash (hset_hset _ _ _ _) (ih_6 x1 (t + 1) (va_up gv t.toNat x) (by omega) (by omega) (by omega) (by rw [sup0_s ht0, ← hr]; show _ = max v (sF S f t - sF S g t); omega) (htl9.up ht0 (by omega))))
          · refine x_lload 2 dX10_make_67 rfl ?_
            refine x_lload 1 dX10_make_69 rfl ?_
            refine x_ladd dX10_make_71 (by unfold okJ; omega) ?_
            refine x_goto 157 dX10_make_72 (by decide) ?_
            refine x_lastore dX10_make_157 (hset_eq _ _ _) (by omega) (by omega) ?_
            refine x_iinc 8 (L' := [(7, vI (t + 1)), (5, vJ x1), (10, vJ y), (8, vJ x), (0, vA m), (1, vI w), (2, vI f), (3, vI g), (4, vI p)]) dX10_make_158 rfl (by unfold okI; omega) (Nat.le_of_ble_eq_true rfl) rfl ?_
            refine x_goto 6 dX10_make_161 (by decide) ?_
            exact EX.pick [4, 5, 6, 7, 8, 1, 0] rfl (x_ash (hset_hset _ _ _ _) (ih_6 x1 (t + 1) (va_up gv t.toNat (x + y)) (by omega) (by omega) (by omega) (by rw [sup0_s ht0, ← hr]; show _ = max v (sF S f t - sF S g t); omega) (htl9.up ht0 (by omega))))
  exact EX.pick [2, 3, 4, 5, 6, 1, 0] rfl (x_ash (hset_self hb9).symm (loop_6 ((760 - (0 : Int)).toNat + 1) 0 0 gw (Nat.lt_succ_self _) (by omega) (by omega) rfl (fun u q1 q2 => by omega)))
set_option maxRecDepth 100000 in
set_option maxHeartbeats 4000000 in
theorem k_X10_ray {G : aG} {d : Nat} (hd : 5 ≤ d) {m b1 b2 b3 b4 b5 b6 b7 b8 b9 lo hi : Nat} {S : aS} {nc : Nat} {h : aH} (hM : MRel m b1 b2 b3 b4 b5 b6 b7 b8 b9 lo hi S h) (hS : SOk nc S) {c : Int} : MC G mX10_ray d 0 0 [vA m, vI c] h (MOut m b1 b2 b3 b4 b5 b6 b7 b8 b9 lo hi h vI (oRay c S)) := by
  obtain ⟨⟨o0, o1, o2, o3, o4, o5, o6, o7, o8, o9, oA⟩, hm, ⟨gT, gD, gC, gK, gA, hb1, hb2, hb3, hb4, hb5, hcu⟩, ⟨fr, hb6, hrw⟩, ⟨sm, hb7, hsm⟩, ⟨g8, hb8, htl⟩, ⟨gw, hb9⟩⟩ := id hM
  obtain ⟨⟨s1, s2⟩, s3, ⟨s4, s5⟩, ⟨s6, s7, s8⟩, s9, ⟨s10, s11⟩, s12⟩ := id hS
  refine MC.of (by decide) (Nat.le_of_ble_eq_true rfl) (fun ok okh => ?_)
  show EX G mX10_ray d 0 0 _ 0 [(0, vA m), (1, vI c)] [] h 0 0
  refine x_iload_n 1 dX10_ray_0 rfl rfl ?_
  refine x_i2l dX10_ray_1 ?_
  refine x_lconst (x := 0) dX10_ray_2 (okJ_c rfl) rfl ?_
  refine x_ldc2 (n := 1000000000) dX10_ray_3 (okJ_c rfl) kc_X10_62 ?_
  refine x_callS [vJ c, vJ 0, vJ 1000000000] dX10_ray_6 ks_X10_50 rfl rfl (by omega) (Nat.le_of_ble_eq_true rfl) (by omega) (by omega) (k_X10_in (d := 0)) (after_ret ?_)
  refine x_if_ne 18 dX10_ray_9 (by decide) (fun c_9 => ?_) (fun c_9 => ?_)
  · have p_9 := b2i_ne c_9
    refine x_aload_n 0 dX10_ray_18 rfl rfl ?_
    refine x_get 0 dX10_ray_19 fl_X10_47 hm rfl ?_
    refine x_bipush dX10_ray_22 (okI_c rfl) (by decide +kernel) ?_
    refine x_icmp_ne 34 dX10_ray_24 (by decide) (fun c_24 => ?_) (fun c_24 => ?_)
    · refine x_iconst dX10_ray_34 (okI_c rfl) ?_
      refine x_istore_n (L' := [(2, vI 0), (0, vA m), (1, vI c)]) dX10_ray_35 rfl (Nat.le_of_ble_eq_true rfl) rfl ?_
      have loop_36 : ∀ (k_36 : Nat) (t : Int) (gv : Nat → Int), (760 - t).toNat < k_36 → (0 ≤ t) → (t ≤ 760) → (Tells gv (fun t => c * t) t) → EX G mX10_ray d 0 0 (MOut m b1 b2 b3 b4 b5 b6 b7 b8 b9 lo hi h vI (oRay c S)) 36 [(0, vA m), (1, vI c), (2, vI t)] [] (hset h b9 (eJ 760 gv)) 0 0 := by
        intro k_36
        induction k_36 with
        | zero => intro t gv hm; exact absurd hm (Nat.not_lt_zero _)
        | succ k_36 ih_36 =>
          intro t gv hm_36 ht0 ht1 htl9
          refine x_iload_n 2 dX10_ray_36 rfl rfl ?_
          refine x_sipush dX10_ray_37 (okI_c rfl) (by decide +kernel) ?_
          refine x_icmp_ge 60 dX10_ray_40 (by decide) (fun c_40 => ?_) (fun c_40 => ?_)
          · refine x_aload_n 0 dX10_ray_60 rfl rfl ?_
            refine x_iconst dX10_ray_61 (okI_c rfl) ?_
            refine x_iload_n 1 dX10_ray_62 rfl rfl ?_
            refine x_i2l dX10_ray_63 ?_
            refine x_callV [vI 1, vJ c] dX10_ray_64 kv_X10_87 rfl rfl ((hset_ne _ _ (by omega)).trans hm) (by omega) (Nat.le_of_ble_eq_true rfl) (by omega) (by omega) (k_X10_settle (d := 1) (by omega) (hM.made gv) hS (hset_eq _ _ _) (H := (fun t => c * t)) (by rw [show (760 : Int) = t by omega]; exact htl9) (fun u q1 q2 => by have := mulB (x := c) (y := u) (by omega) q1 (X := 1000000000) (Y := 760) (by omega) (by omega); exact ⟨this.1, by show c * u ≤ _; omega⟩) ⟨fun s hs => Int.mul_nonneg (by omega) hs, fun s u hs hu => Int.mul_le_mul_of_nonneg_left hu (by omega)⟩ (d0 := 1) (c0 := c) (by omega) (by omega) (by omega) (by omega) (by omega) (fun _ u _ => by show c * (u + 1) = c * u + c; rw [Int.mul_add, Int.mul_one])) (fun r9 h9 q9 => ?_)
            obtain ⟨rfl, hCz, hFz⟩ := q9
            exact x_ireturn dX10_ray_67 rfl (by omega) (by omega) (outM (by rw [oRay, if_neg (by omega), if_neg (show ¬ 60 ≤ sCu S by omega)]) hCz (MFr.trans (MFr.set MFr.refl (by omega) (by omega)) hFz))
          · refine x_aload_n 0 dX10_ray_43 rfl rfl ?_
            refine x_get 14 dX10_ray_44 fl_X10_39 ((hset_ne _ _ (by omega)).trans hm) rfl ?_
            refine x_iload_n 2 dX10_ray_47 rfl rfl ?_
            refine x_iload_n 1 dX10_ray_48 rfl rfl ?_
            refine x_i2l dX10_ray_49 ?_
            
            refine x_iload_n 2 dX10_ray_50 rfl rfl ?_
            refine x_i2l dX10_ray_51 ?_
            refine x_lmul dX10_ray_52 (by have := mulB (x := c) (y := t) (by omega) ht0 (X := 1000000000) (Y := 760) (by omega) (by omega); unfold okJ; omega) ?_
            refine x_lastore dX10_ray_53 (hset_eq _ _ _) (by omega) (by omega) ?_
            refine x_iinc 2 (L' := [(2, vI (t + 1)), (0, vA m), (1, vI c)]) dX10_ray_54 rfl (by unfold okI; omega) (Nat.le_of_ble_eq_true rfl) rfl ?_
            refine x_goto 36 dX10_ray_57 (by decide) ?_
            exact EX.pick [1, 2, 0] rfl (x_ash (hset_hset _ _ _ _) (ih_36 (t + 1) (va_up gv t.toNat (c * t)) (by omega) (by omega) (by omega) (htl9.up ht0 rfl)))
      exact EX.pick [1, 2, 0] rfl (x_ash (hset_self hb9).symm (loop_36 ((760 - (0 : Int)).toNat + 1) 0 gw (Nat.lt_succ_self _) (by omega) (by omega) (fun u q1 q2 => by omega)))
    · refine x_aload_n 0 dX10_ray_27 rfl rfl ?_
      refine x_bipush dX10_ray_28 (okI_c rfl) (by decide +kernel) ?_
      refine x_callV [vI ((-3))] dX10_ray_30 kv_X10_58 rfl rfl hm (by omega) (Nat.le_of_ble_eq_true rfl) (by omega) (by omega) (k_X10_refuse (d := 0) (S := S)  (hM)) (fun r1 h1 q1 => ?_)
      obtain ⟨rfl, hCz, hFz⟩ := q1
      exact x_ireturn dX10_ray_33 rfl (by omega) (by omega) (outM (by rw [oRay, if_neg (by omega), if_pos (by omega)]; rfl) hCz (MFr.trans MFr.refl hFz))
  · have p_9 := b2i_eq c_9
    refine x_aload_n 0 dX10_ray_12 rfl rfl ?_
    refine x_iconst dX10_ray_13 (okI_c rfl) ?_
    refine x_callV [vI ((-1))] dX10_ray_14 kv_X10_58 rfl rfl hm (by omega) (Nat.le_of_ble_eq_true rfl) (by omega) (by omega) (k_X10_refuse (d := 0) (S := S)  (hM)) (fun r1 h1 q1 => ?_)
    obtain ⟨rfl, hCz, hFz⟩ := q1
    exact x_ireturn dX10_ray_17 rfl (by omega) (by omega) (outM (by rw [oRay, if_pos (by omega)]; rfl) hCz (MFr.trans MFr.refl hFz))
set_option maxRecDepth 100000 in
set_option maxHeartbeats 4000000 in
theorem k_X10_times {G : aG} {d : Nat} (hd : 5 ≤ d) {m b1 b2 b3 b4 b5 b6 b7 b8 b9 lo hi : Nat} {S : aS} {nc : Nat} {h : aH} (hM : MRel m b1 b2 b3 b4 b5 b6 b7 b8 b9 lo hi S h) (hS : SOk nc S) {f : Int} {n : Int} : MC G mX10_times d 0 0 [vA m, vI f, vI n] h (MOut m b1 b2 b3 b4 b5 b6 b7 b8 b9 lo hi h vI (oTimes f n S)) := by
  obtain ⟨⟨o0, o1, o2, o3, o4, o5, o6, o7, o8, o9, oA⟩, hm, ⟨gT, gD, gC, gK, gA, hb1, hb2, hb3, hb4, hb5, hcu⟩, ⟨fr, hb6, hrw⟩, ⟨sm, hb7, hsm⟩, ⟨g8, hb8, htl⟩, ⟨gw, hb9⟩⟩ := id hM
  obtain ⟨⟨s1, s2⟩, s3, ⟨s4, s5⟩, ⟨s6, s7, s8⟩, s9, ⟨s10, s11⟩, s12⟩ := id hS
  refine MC.of (by decide) (Nat.le_of_ble_eq_true rfl) (fun ok okh => ?_)
  show EX G mX10_times d 0 0 _ 0 [(0, vA m), (1, vI f), (2, vI n)] [] h 0 0
  refine x_aload_n 0 dX10_times_0 rfl rfl ?_
  refine x_iload_n 1 dX10_times_1 rfl rfl ?_
  refine x_callV [vI f] dX10_times_2 kv_X10_109 rfl rfl hm (by omega) (Nat.le_of_ble_eq_true rfl) (by omega) (by omega) (k_X10_isCurve (d := 1) (by omega) hM hS (f := f)) (after_ret ?_)
  refine x_if_eq 20 dX10_times_5 (by decide) (fun c_5 => ?_) (fun c_5 => ?_)
  · have p_5 := b2i_eq c_5
    refine x_aload_n 0 dX10_times_20 rfl rfl ?_
    refine x_iconst dX10_times_21 (okI_c rfl) ?_
    refine x_callV [vI ((-1))] dX10_times_22 kv_X10_58 rfl rfl hm (by omega) (Nat.le_of_ble_eq_true rfl) (by omega) (by omega) (k_X10_refuse (d := 0) (S := S)  (hM)) (fun r1 h1 q1 => ?_)
    obtain ⟨rfl, hCz, hFz⟩ := q1
    exact x_ireturn dX10_times_25 rfl (by omega) (by omega) (outM (by rw [oTimes, cond_t (by first | exact Or.inl p_5 | exact Or.inr (by omega))]; rfl) hCz (MFr.trans MFr.refl hFz))
  · have p_5 := b2i_ne c_5
    refine x_iload_n 2 dX10_times_8 rfl rfl ?_
    refine x_i2l dX10_times_9 ?_
    refine x_lconst (x := 0) dX10_times_10 (okJ_c rfl) rfl ?_
    refine x_ldc2 (n := 1000) dX10_times_11 (okJ_c rfl) kc_X10_124 ?_
    refine x_callS [vJ n, vJ 0, vJ 1000] dX10_times_14 ks_X10_50 rfl rfl (by omega) (Nat.le_of_ble_eq_true rfl) (by omega) (by omega) (k_X10_in (d := 0)) (after_ret ?_)
    refine x_if_ne 26 dX10_times_17 (by decide) (fun c_17 => ?_) (fun c_17 => ?_)
    · have p_17 := b2i_ne c_17
      have hf := p_5
      have hcf := hcu f hf.1 hf.2
      obtain ⟨hT0f, hT2f, hD0f, hD6f, hC0f, hC1f, hAf, hMf, hWf⟩ := id (s3 f hf.1 hf.2)
      have hlf := hf.2
      have hzf := hf.1
      refine x_aload_n 0 dX10_times_26 rfl rfl ?_
      refine x_get 0 dX10_times_27 fl_X10_47 hm rfl ?_
      refine x_bipush dX10_times_30 (okI_c rfl) (by decide +kernel) ?_
      refine x_icmp_ne 42 dX10_times_32 (by decide) (fun c_32 => ?_) (fun c_32 => ?_)
      · refine x_iconst dX10_times_42 (okI_c rfl) ?_
        refine x_istore_n (L' := [(3, vI 0), (0, vA m), (1, vI f), (2, vI n)]) dX10_times_43 rfl (Nat.le_of_ble_eq_true rfl) rfl ?_
        have loop_44 : ∀ (k_44 : Nat) (t : Int) (gv : Nat → Int), (760 - t).toNat < k_44 → (0 ≤ t) → (t ≤ 760) → (Tells gv (timesS n (sF S f)) t) → EX G mX10_times d 0 0 (MOut m b1 b2 b3 b4 b5 b6 b7 b8 b9 lo hi h vI (oTimes f n S)) 44 [(0, vA m), (1, vI f), (2, vI n), (3, vI t)] [] (hset h b9 (eJ 760 gv)) 0 0 := by
          intro k_44
          induction k_44 with
          | zero => intro t gv hm; exact absurd hm (Nat.not_lt_zero _)
          | succ k_44 ih_44 =>
            intro t gv hm_44 ht0 ht1 htl9
            refine x_iload_n 3 dX10_times_44 rfl rfl ?_
            refine x_sipush dX10_times_45 (okI_c rfl) (by decide +kernel) ?_
            refine x_icmp_ge 73 dX10_times_48 (by decide) (fun c_48 => ?_) (fun c_48 => ?_)
            · have w3 := mulB (x := n) (y := sC S f) (by omega) (by omega) (X := 1000) (Y := 1000000000) (by omega) (by omega)
              have hPf1 : Per (sF S f) (sT S f) (sD S f) (sC S f) := fun t ht => cval_per hD0f ht
              refine x_aload_n 0 dX10_times_73 rfl rfl ?_
              refine x_aload_n 0 dX10_times_74 rfl rfl ?_
              refine x_get 2 dX10_times_75 fl_X10_13 ((hset_ne _ _ (by omega)).trans hm) rfl ?_
              refine x_iload_n 1 dX10_times_78 rfl rfl ?_
              refine x_iaload dX10_times_79 ((hset_ne _ _ (by omega)).trans hb2) (by omega) (by omega) ?_
              refine x_asI (y := (sD S f)) hcf.2.1 ?_
              refine x_iload_n 2 dX10_times_80 rfl rfl ?_
              refine x_i2l dX10_times_81 ?_
              refine x_aload_n 0 dX10_times_82 rfl rfl ?_
              refine x_get 3 dX10_times_83 fl_X10_16 ((hset_ne _ _ (by omega)).trans hm) rfl ?_
              refine x_iload_n 1 dX10_times_86 rfl rfl ?_
              refine x_laload dX10_times_87 ((hset_ne _ _ (by omega)).trans hb3) (by omega) (by omega) ?_
              refine x_asJ (y := (sC S f)) hcf.2.2.1 ?_
              refine x_lmul dX10_times_88 (by unfold okJ; omega) ?_
              refine x_callV [vI ((sD S f)), vJ (n * ((sC S f)))] dX10_times_89 kv_X10_87 rfl rfl ((hset_ne _ _ (by omega)).trans hm) (by omega) (Nat.le_of_ble_eq_true rfl) (by omega) (by omega) (k_X10_settle (d := 1) (by omega) (hM.made gv) hS (hset_eq _ _ _) (H := timesS n (sF S f)) (by rw [show (760 : Int) = t by omega]; exact htl9) (times_bnd (B := 4000000000000) (by omega) (by omega) (cval_bnd (n := 760) (s3 f hf.1 hf.2) (by omega))) (times_mono (by omega) (cval_M (s3 f hf.1 hf.2))) (d0 := (sD S f)) (c0 := (n * sC S f)) (by omega) (by omega) (by omega) (by omega) (by omega) (fun _ => (times_per (hPf1)).later (by omega))) (fun r9 h9 q9 => ?_)
              obtain ⟨rfl, hCz, hFz⟩ := q9
              exact x_ireturn dX10_times_92 rfl (by omega) (by omega) (outM (by rw [oTimes, cond_f (fun z => z.elim (fun y => y p_5) (fun y => by omega)), if_neg (show ¬ 60 ≤ sCu S by omega)]) hCz (MFr.trans (MFr.set MFr.refl (by omega) (by omega)) hFz))
            · refine x_aload_n 0 dX10_times_51 rfl rfl ?_
              refine x_get 14 dX10_times_52 fl_X10_39 ((hset_ne _ _ (by omega)).trans hm) rfl ?_
              refine x_iload_n 3 dX10_times_55 rfl rfl ?_
              refine x_iload_n 2 dX10_times_56 rfl rfl ?_
              refine x_i2l dX10_times_57 ?_
              refine x_aload_n 0 dX10_times_58 rfl rfl ?_
              refine x_iload_n 1 dX10_times_59 rfl rfl ?_
              refine x_iload_n 3 dX10_times_60 rfl rfl ?_
              refine x_i2l dX10_times_61 ?_
              refine x_callV [vI f, vJ t] dX10_times_62 kv_X10_95 rfl rfl ((hset_ne _ _ (by omega)).trans hm) (by omega) (Nat.le_of_ble_eq_true rfl) (by omega) (by omega) (k_X10_value (d := 0) (hM.made gv) hS (f := f) (t := t) hf (by omega) (by omega)) (after_ret ?_)
              have w1 : 0 ≤ sF S f t ∧ sF S f t ≤ 4000000000000 := cval_bnd (n := 3000) (s3 f hf.1 hf.2) (Int.le_refl _) t (by omega) (by omega)
              have w2 := mulB (x := n) (y := sF S f t) (by omega) w1.1 (X := 1000) (Y := 4000000000000) (by omega) w1.2
              refine x_lmul dX10_times_65 (by unfold okJ; omega) ?_
              refine x_lastore dX10_times_66 (hset_eq _ _ _) (by omega) (by omega) ?_
              refine x_iinc 3 (L' := [(3, vI (t + 1)), (0, vA m), (1, vI f), (2, vI n)]) dX10_times_67 rfl (by unfold okI; omega) (Nat.le_of_ble_eq_true rfl) rfl ?_
              refine x_goto 44 dX10_times_70 (by decide) ?_
              exact EX.pick [1, 2, 3, 0] rfl (x_ash (hset_hset _ _ _ _) (ih_44 (t + 1) (va_up gv t.toNat (n * ((sF S f (t))))) (by omega) (by omega) (by omega) (htl9.up ht0 (by rw [timesS, Int.mul_comm]))))
        exact EX.pick [1, 2, 3, 0] rfl (x_ash (hset_self hb9).symm (loop_44 ((760 - (0 : Int)).toNat + 1) 0 gw (Nat.lt_succ_self _) (by omega) (by omega) (fun u q1 q2 => by omega)))
      · refine x_aload_n 0 dX10_times_35 rfl rfl ?_
        refine x_bipush dX10_times_36 (okI_c rfl) (by decide +kernel) ?_
        refine x_callV [vI ((-3))] dX10_times_38 kv_X10_58 rfl rfl hm (by omega) (Nat.le_of_ble_eq_true rfl) (by omega) (by omega) (k_X10_refuse (d := 0) (S := S)  (hM)) (fun r1 h1 q1 => ?_)
        obtain ⟨rfl, hCz, hFz⟩ := q1
        exact x_ireturn dX10_times_41 rfl (by omega) (by omega) (outM (by rw [oTimes, cond_f (fun z => z.elim (fun y => y p_5) (fun y => by omega)), if_pos (by omega)]; rfl) hCz (MFr.trans MFr.refl hFz))
    · have p_17 := b2i_eq c_17
      refine x_aload_n 0 dX10_times_20 rfl rfl ?_
      refine x_iconst dX10_times_21 (okI_c rfl) ?_
      refine x_callV [vI ((-1))] dX10_times_22 kv_X10_58 rfl rfl hm (by omega) (Nat.le_of_ble_eq_true rfl) (by omega) (by omega) (k_X10_refuse (d := 0) (S := S)  (hM)) (fun r1 h1 q1 => ?_)
      obtain ⟨rfl, hCz, hFz⟩ := q1
      exact x_ireturn dX10_times_25 rfl (by omega) (by omega) (outM (by rw [oTimes, cond_t (by first | exact Or.inl p_5 | exact Or.inr (by omega))]; rfl) hCz (MFr.trans MFr.refl hFz))
set_option maxRecDepth 100000 in
set_option maxHeartbeats 4000000 in
theorem k_X10_shift {G : aG} {d : Nat} (hd : 5 ≤ d) {m b1 b2 b3 b4 b5 b6 b7 b8 b9 lo hi : Nat} {S : aS} {nc : Nat} {h : aH} (hM : MRel m b1 b2 b3 b4 b5 b6 b7 b8 b9 lo hi S h) (hS : SOk nc S) {f : Int} {n : Int} : MC G mX10_shift d 0 0 [vA m, vI f, vI n] h (MOut m b1 b2 b3 b4 b5 b6 b7 b8 b9 lo hi h vI (oShift f n S)) := by
  obtain ⟨⟨o0, o1, o2, o3, o4, o5, o6, o7, o8, o9, oA⟩, hm, ⟨gT, gD, gC, gK, gA, hb1, hb2, hb3, hb4, hb5, hcu⟩, ⟨fr, hb6, hrw⟩, ⟨sm, hb7, hsm⟩, ⟨g8, hb8, htl⟩, ⟨gw, hb9⟩⟩ := id hM
  obtain ⟨⟨s1, s2⟩, s3, ⟨s4, s5⟩, ⟨s6, s7, s8⟩, s9, ⟨s10, s11⟩, s12⟩ := id hS
  refine MC.of (by decide) (Nat.le_of_ble_eq_true rfl) (fun ok okh => ?_)
  show EX G mX10_shift d 0 0 _ 0 [(0, vA m), (1, vI f), (2, vI n)] [] h 0 0
  refine x_aload_n 0 dX10_shift_0 rfl rfl ?_
  refine x_iload_n 1 dX10_shift_1 rfl rfl ?_
  refine x_callV [vI f] dX10_shift_2 kv_X10_109 rfl rfl hm (by omega) (Nat.le_of_ble_eq_true rfl) (by omega) (by omega) (k_X10_isCurve (d := 1) (by omega) hM hS (f := f)) (after_ret ?_)
  refine x_if_eq 20 dX10_shift_5 (by decide) (fun c_5 => ?_) (fun c_5 => ?_)
  · have p_5 := b2i_eq c_5
    refine x_aload_n 0 dX10_shift_20 rfl rfl ?_
    refine x_iconst dX10_shift_21 (okI_c rfl) ?_
    refine x_callV [vI ((-1))] dX10_shift_22 kv_X10_58 rfl rfl hm (by omega) (Nat.le_of_ble_eq_true rfl) (by omega) (by omega) (k_X10_refuse (d := 0) (S := S)  (hM)) (fun r1 h1 q1 => ?_)
    obtain ⟨rfl, hCz, hFz⟩ := q1
    exact x_ireturn dX10_shift_25 rfl (by omega) (by omega) (outM (by rw [oShift, cond_t (by first | exact Or.inl p_5 | exact Or.inr (by omega))]; rfl) hCz (MFr.trans MFr.refl hFz))
  · have p_5 := b2i_ne c_5
    refine x_iload_n 2 dX10_shift_8 rfl rfl ?_
    refine x_i2l dX10_shift_9 ?_
    refine x_lconst (x := 0) dX10_shift_10 (okJ_c rfl) rfl ?_
    refine x_ldc2 (n := 200) dX10_shift_11 (okJ_c rfl) kc_X10_126 ?_
    refine x_callS [vJ n, vJ 0, vJ 200] dX10_shift_14 ks_X10_50 rfl rfl (by omega) (Nat.le_of_ble_eq_true rfl) (by omega) (by omega) (k_X10_in (d := 0)) (after_ret ?_)
    refine x_if_ne 26 dX10_shift_17 (by decide) (fun c_17 => ?_) (fun c_17 => ?_)
    · have p_17 := b2i_ne c_17
      have hf := p_5
      have hcf := hcu f hf.1 hf.2
      obtain ⟨hT0f, hT2f, hD0f, hD6f, hC0f, hC1f, hAf, hMf, hWf⟩ := id (s3 f hf.1 hf.2)
      have hlf := hf.2
      have hzf := hf.1
      refine x_aload_n 0 dX10_shift_26 rfl rfl ?_
      refine x_get 0 dX10_shift_27 fl_X10_47 hm rfl ?_
      refine x_bipush dX10_shift_30 (okI_c rfl) (by decide +kernel) ?_
      refine x_icmp_ne 42 dX10_shift_32 (by decide) (fun c_32 => ?_) (fun c_32 => ?_)
      · refine x_iconst dX10_shift_42 (okI_c rfl) ?_
        refine x_istore_n (L' := [(3, vI 0), (0, vA m), (1, vI f), (2, vI n)]) dX10_shift_43 rfl (Nat.le_of_ble_eq_true rfl) rfl ?_
        have loop_44 : ∀ (k_44 : Nat) (t : Int) (gv : Nat → Int), (760 - t).toNat < k_44 → (0 ≤ t) → (t ≤ 760) → (Tells gv (shiftS n (sF S f)) t) → EX G mX10_shift d 0 0 (MOut m b1 b2 b3 b4 b5 b6 b7 b8 b9 lo hi h vI (oShift f n S)) 44 [(0, vA m), (1, vI f), (2, vI n), (3, vI t)] [] (hset h b9 (eJ 760 gv)) 0 0 := by
          intro k_44
          induction k_44 with
          | zero => intro t gv hm; exact absurd hm (Nat.not_lt_zero _)
          | succ k_44 ih_44 =>
            intro t gv hm_44 ht0 ht1 htl9
            refine x_iload_n 3 dX10_shift_44 rfl rfl ?_
            refine x_sipush dX10_shift_45 (okI_c rfl) (by decide +kernel) ?_
            refine x_icmp_ge 81 dX10_shift_48 (by decide) (fun c_48 => ?_) (fun c_48 => ?_)
            · have hPf1 : Per (sF S f) (sT S f) (sD S f) (sC S f) := fun t ht => cval_per hD0f ht
              refine x_aload_n 0 dX10_shift_81 rfl rfl ?_
              refine x_aload_n 0 dX10_shift_82 rfl rfl ?_
              refine x_get 2 dX10_shift_83 fl_X10_13 ((hset_ne _ _ (by omega)).trans hm) rfl ?_
              refine x_iload_n 1 dX10_shift_86 rfl rfl ?_
              refine x_iaload dX10_shift_87 ((hset_ne _ _ (by omega)).trans hb2) (by omega) (by omega) ?_
              refine x_asI (y := (sD S f)) hcf.2.1 ?_
              refine x_aload_n 0 dX10_shift_88 rfl rfl ?_
              refine x_get 3 dX10_shift_89 fl_X10_16 ((hset_ne _ _ (by omega)).trans hm) rfl ?_
              refine x_iload_n 1 dX10_shift_92 rfl rfl ?_
              refine x_laload dX10_shift_93 ((hset_ne _ _ (by omega)).trans hb3) (by omega) (by omega) ?_
              refine x_asJ (y := (sC S f)) hcf.2.2.1 ?_
              refine x_callV [vI ((sD S f)), vJ ((sC S f))] dX10_shift_94 kv_X10_87 rfl rfl ((hset_ne _ _ (by omega)).trans hm) (by omega) (Nat.le_of_ble_eq_true rfl) (by omega) (by omega) (k_X10_settle (d := 1) (by omega) (hM.made gv) hS (hset_eq _ _ _) (H := shiftS n (sF S f)) (by rw [show (760 : Int) = t by omega]; exact htl9) (fun u q1 q2 => by have := shift_bnd (n := n) (k := 760) (B := 4000000000000) (by omega) (by omega) (cval_bnd (n := 760) (s3 f hf.1 hf.2) (by omega)) u q1 q2; exact ⟨this.1, Int.le_trans this.2 (by decide)⟩) (shift_mono (cval_M (s3 f hf.1 hf.2))) (d0 := (sD S f)) (c0 := (sC S f)) (by omega) (by omega) (by omega) (by omega) (by omega) (fun q => round_of (fr := n + sT S f) (by omega) (shift_per (by omega) (by omega) hPf1) q)) (fun r9 h9 q9 => ?_)
              obtain ⟨rfl, hCz, hFz⟩ := q9
              exact x_ireturn dX10_shift_97 rfl (by omega) (by omega) (outM (by rw [oShift, cond_f (fun z => z.elim (fun y => y p_5) (fun y => by omega)), if_neg (show ¬ 60 ≤ sCu S by omega)]) hCz (MFr.trans (MFr.set MFr.refl (by omega) (by omega)) hFz))
            · refine x_aload_n 0 dX10_shift_51 rfl rfl ?_
              refine x_get 14 dX10_shift_52 fl_X10_39 ((hset_ne _ _ (by omega)).trans hm) rfl ?_
              refine x_iload_n 3 dX10_shift_55 rfl rfl ?_
              refine x_iload_n 3 dX10_shift_56 rfl rfl ?_
              refine x_iload_n 2 dX10_shift_57 rfl rfl ?_
              refine x_icmp_ge 65 dX10_shift_58 (by decide) (fun c_58 => ?_) (fun c_58 => ?_)
              · refine x_aload_n 0 dX10_shift_65 rfl rfl ?_
                refine x_iload_n 1 dX10_shift_66 rfl rfl ?_
                refine x_iload_n 3 dX10_shift_67 rfl rfl ?_
                refine x_iload_n 2 dX10_shift_68 rfl rfl ?_
                refine x_isub dX10_shift_69 (by unfold okI; omega) ?_
                refine x_i2l dX10_shift_70 ?_
                refine x_callV [vI f, vJ (t - n)] dX10_shift_71 kv_X10_95 rfl rfl ((hset_ne _ _ (by omega)).trans hm) (by omega) (Nat.le_of_ble_eq_true rfl) (by omega) (by omega) (k_X10_value (d := 0) (hM.made gv) hS (f := f) (t := t - n) hf (by omega) (by omega)) (after_ret ?_)
                refine x_lastore dX10_shift_74 (hset_eq _ _ _) (by omega) (by omega) ?_
                refine x_iinc 3 (L' := [(3, vI (t + 1)), (0, vA m), (1, vI f), (2, vI n)]) dX10_shift_75 rfl (by unfold okI; omega) (Nat.le_of_ble_eq_true rfl) rfl ?_
                refine x_goto 44 dX10_shift_78 (by decide) ?_
                exact EX.pick [1, 2, 3, 0] rfl (x_ash (hset_hset _ _ _ _) (ih_44 (t + 1) (va_up gv t.toNat ((sF S f (t - n)))) (by omega) (by omega) (by omega) (by first | exact htl9.up ht0 (by rw [shiftS, if_pos c_58]) | exact htl9.up ht0 (by rw [shiftS, if_neg (by omega)]))))
              · refine x_lconst (x := 0) dX10_shift_61 (okJ_c rfl) rfl ?_
                refine x_goto 74 dX10_shift_62 (by decide) ?_
                refine x_lastore dX10_shift_74 (hset_eq _ _ _) (by omega) (by omega) ?_
                refine x_iinc 3 (L' := [(3, vI (t + 1)), (0, vA m), (1, vI f), (2, vI n)]) dX10_shift_75 rfl (by unfold okI; omega) (Nat.le_of_ble_eq_true rfl) rfl ?_
                refine x_goto 44 dX10_shift_78 (by decide) ?_
                exact EX.pick [1, 2, 3, 0] rfl (x_ash (hset_hset _ _ _ _) (ih_44 (t + 1) (va_up gv t.toNat 0) (by omega) (by omega) (by omega) (by first | exact htl9.up ht0 (by rw [shiftS, if_pos c_58]) | exact htl9.up ht0 (by rw [shiftS, if_neg (by omega)]))))
        exact EX.pick [1, 2, 3, 0] rfl (x_ash (hset_self hb9).symm (loop_44 ((760 - (0 : Int)).toNat + 1) 0 gw (Nat.lt_succ_self _) (by omega) (by omega) (fun u q1 q2 => by omega)))
      · refine x_aload_n 0 dX10_shift_35 rfl rfl ?_
        refine x_bipush dX10_shift_36 (okI_c rfl) (by decide +kernel) ?_
        refine x_callV [vI ((-3))] dX10_shift_38 kv_X10_58 rfl rfl hm (by omega) (Nat.le_of_ble_eq_true rfl) (by omega) (by omega) (k_X10_refuse (d := 0) (S := S)  (hM)) (fun r1 h1 q1 => ?_)
        obtain ⟨rfl, hCz, hFz⟩ := q1
        exact x_ireturn dX10_shift_41 rfl (by omega) (by omega) (outM (by rw [oShift, cond_f (fun z => z.elim (fun y => y p_5) (fun y => by omega)), if_pos (by omega)]; rfl) hCz (MFr.trans MFr.refl hFz))
    · have p_17 := b2i_eq c_17
      refine x_aload_n 0 dX10_shift_20 rfl rfl ?_
      refine x_iconst dX10_shift_21 (okI_c rfl) ?_
      refine x_callV [vI ((-1))] dX10_shift_22 kv_X10_58 rfl rfl hm (by omega) (Nat.le_of_ble_eq_true rfl) (by omega) (by omega) (k_X10_refuse (d := 0) (S := S)  (hM)) (fun r1 h1 q1 => ?_)
      obtain ⟨rfl, hCz, hFz⟩ := q1
      exact x_ireturn dX10_shift_25 rfl (by omega) (by omega) (outM (by rw [oShift, cond_t (by first | exact Or.inl p_5 | exact Or.inr (by omega))]; rfl) hCz (MFr.trans MFr.refl hFz))
