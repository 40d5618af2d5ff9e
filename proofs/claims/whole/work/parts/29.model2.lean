/-! ===== FlowCurvesModel: sums, leasts, mosts ===== -/
set_option maxRecDepth 100000 in
set_option maxHeartbeats 4000000 in
theorem k_X10_least {G : aG} {d : Nat} (hd : 1 ≤ d) {m b1 b2 b3 b4 b5 b6 b7 b8 b9 lo hi : Nat} {S : aS} {nc : Nat} {h : aH} (hM : MRel m b1 b2 b3 b4 b5 b6 b7 b8 b9 lo hi S h) (hS : SOk nc S) {f g t : Int} (hf : isC S f) (hg : isC S g) (ht0 : 0 ≤ t) (ht1 : t ≤ 1000) : MC G mX10_least d 0 0 [vA m, vI f, vI g, vI t] h (Ret (vJ (bothS (sF S f) (sF S g) t)) h) := by
  obtain ⟨⟨o0, o1, o2, o3, o4, o5, o6, o7, o8, o9, oA⟩, hm, ⟨gT, gD, gC, gK, gA, hb1, hb2, hb3, hb4, hb5, hcu⟩, ⟨fr, hb6, hrw⟩, ⟨sm, hb7, hsm⟩, ⟨g8, hb8, htl⟩, ⟨gw, hb9⟩⟩ := id hM
  obtain ⟨⟨s1, s2⟩, s3, ⟨s4, s5⟩, ⟨s6, s7, s8⟩, s9, ⟨s10, s11⟩, s12⟩ := id hS
  refine MC.of (by decide) (Nat.le_of_ble_eq_true rfl) (fun ok okh => ?_)
  show EX G mX10_least d 0 0 _ 0 [(0, vA m), (1, vI f), (2, vI g), (3, vI t)] [] h 0 0
  refine x_aload_n 0 dX10_least_0 rfl rfl ?_
  refine x_iload_n 1 dX10_least_1 rfl rfl ?_
  refine x_lconst (x := 0) dX10_least_2 (okJ_c rfl) rfl ?_
  refine x_callV [vI f, vJ 0] dX10_least_3 kv_X10_95 rfl rfl hm (by omega) (Nat.le_of_ble_eq_true rfl) (by omega) (by omega) (k_X10_value (d := 0) hM hS (f := f) (t := 0) hf (by omega) (by omega)) (after_ret ?_)
  refine x_aload_n 0 dX10_least_6 rfl rfl ?_
  refine x_iload_n 2 dX10_least_7 rfl rfl ?_
  refine x_iload_n 3 dX10_least_8 rfl rfl ?_
  refine x_i2l dX10_least_9 ?_
  refine x_callV [vI g, vJ t] dX10_least_10 kv_X10_95 rfl rfl hm (by omega) (Nat.le_of_ble_eq_true rfl) (by omega) (by omega) (k_X10_value (d := 0) hM hS (f := g) (t := t) hg (by omega) (by omega)) (after_ret ?_)
  have w1 : 0 ≤ sF S f (0) ∧ sF S f (0) ≤ 4000000000000 := cval_bnd (n := 3000) (s3 f hf.1 hf.2) (Int.le_refl _) (0) (by omega) (by omega)
  have w2 : 0 ≤ sF S g (t) ∧ sF S g (t) ≤ 4000000000000 := cval_bnd (n := 3000) (s3 g hg.1 hg.2) (Int.le_refl _) (t) (by omega) (by omega)
  refine x_ladd dX10_least_13 (by unfold okJ; omega) ?_
  refine x_nmJ (fun x1 e_x1 => ?_)
  refine x_lstore (L' := [(4, vJ x1), (0, vA m), (1, vI f), (2, vI g), (3, vI t)]) dX10_least_14 (Nat.le_of_ble_eq_true rfl) rfl ?_
  refine x_iconst dX10_least_16 (okI_c rfl) ?_
  refine x_istore (L' := [(6, vI 1), (4, vJ x1), (0, vA m), (1, vI f), (2, vI g), (3, vI t)]) dX10_least_17 (Nat.le_of_ble_eq_true rfl) rfl ?_
  have loop_19 : ∀ (k_19 : Nat) (v : Int) (s : Int) , (t + 1 - s).toNat < k_19 → (1 ≤ s) → (s ≤ t + 1) → (v = (minS (fun s => sF S f s + sF S g (t - s)) (sF S f 0 + sF S g t) s.toNat)) → EX G mX10_least d 0 0 (Ret (vJ (bothS (sF S f) (sF S g) t)) h) 19 [(0, vA m), (1, vI f), (2, vI g), (3, vI t), (4, vJ v), (6, vI s)] [] h 0 0 := by
    intro k_19
    induction k_19 with
    | zero => intro v s hm; exact absurd hm (Nat.not_lt_zero _)
    | succ k_19 ih_19 =>
      intro v s hm_19 hs1 hst hv
      refine x_iload 5 dX10_least_19 rfl ?_
      refine x_iload_n 3 dX10_least_21 rfl rfl ?_
      refine x_icmp_gt 69 dX10_least_22 (by decide) (fun c_22 => ?_) (fun c_22 => ?_)
      · refine x_lload 4 dX10_least_69 rfl ?_
        exact x_lreturn dX10_least_71 rfl (by decide) (by decide) (retJ (by rw [hv, show s = t + 1 by omega]; rfl))
      · refine x_aload_n 0 dX10_least_25 rfl rfl ?_
        refine x_iload_n 1 dX10_least_26 rfl rfl ?_
        refine x_iload 5 dX10_least_27 rfl ?_
        refine x_i2l dX10_least_29 ?_
        refine x_callV [vI f, vJ s] dX10_least_30 kv_X10_95 rfl rfl hm (by omega) (Nat.le_of_ble_eq_true rfl) (by omega) (by omega) (k_X10_value (d := 0) hM hS (f := f) (t := s) hf (by omega) (by omega)) (after_ret ?_)
        refine x_aload_n 0 dX10_least_33 rfl rfl ?_
        refine x_iload_n 2 dX10_least_34 rfl rfl ?_
        refine x_iload_n 3 dX10_least_35 rfl rfl ?_
        refine x_iload 5 dX10_least_36 rfl ?_
        refine x_isub dX10_least_38 (by unfold okI; omega) ?_
        refine x_i2l dX10_least_39 ?_
        refine x_callV [vI g, vJ (t - s)] dX10_least_40 kv_X10_95 rfl rfl hm (by omega) (Nat.le_of_ble_eq_true rfl) (by omega) (by omega) (k_X10_value (d := 0) hM hS (f := g) (t := t - s) hg (by omega) (by omega)) (after_ret ?_)
        have w1 : 0 ≤ sF S f (s) ∧ sF S f (s) ≤ 4000000000000 := cval_bnd (n := 3000) (s3 f hf.1 hf.2) (Int.le_refl _) (s) (by omega) (by omega)
        have w2 : 0 ≤ sF S g (t - s) ∧ sF S g (t - s) ≤ 4000000000000 := cval_bnd (n := 3000) (s3 g hg.1 hg.2) (Int.le_refl _) (t - s) (by omega) (by omega)
        refine x_ladd dX10_least_43 (by unfold okJ; omega) ?_
        refine x_nmJ (fun x2 e_x2 => ?_)
        refine x_lstore (L' := [(7, vJ x2), (0, vA m), (1, vI f), (2, vI g), (3, vI t), (4, vJ v), (6, vI s)]) dX10_least_44 (Nat.le_of_ble_eq_true rfl) rfl ?_
        refine x_lload 0 dX10_least_46 rfl ?_
        refine x_lload 5 dX10_least_48 rfl ?_
        refine x_lc_ge 59 dX10_least_50 dX10_least_51 (by decide) (fun c_50 => ?_) (fun c_50 => ?_)
        · refine x_lload 5 dX10_least_59 rfl ?_
          refine x_lstore (L' := [(4, vJ v), (7, vJ x2), (0, vA m), (1, vI f), (2, vI g), (3, vI t), (6, vI s)]) dX10_least_61 (Nat.le_of_ble_eq_true rfl) rfl ?_
          refine x_iinc 6 (L' := [(6, vI (s + 1)), (4, vJ v), (7, vJ x2), (0, vA m), (1, vI f), (2, vI g), (3, vI t)]) dX10_least_63 rfl (by unfold okI; omega) (Nat.le_of_ble_eq_true rfl) rfl ?_
          refine x_goto 19 dX10_least_66 (by decide) ?_
          exact EX.pick [3, 4, 5, 6, 1, 0] rfl (ih_19 v (s + 1)  (by omega) (by omega) (by omega) (by rw [minS_s (by omega), ← hv]; show _ = min v (sF S f s + sF S g (t - s)); omega))
        · refine x_lload 0 dX10_least_54 rfl ?_
          refine x_goto 61 dX10_least_56 (by decide) ?_
          refine x_lstore (L' := [(4, vJ x2), (7, vJ x2), (0, vA m), (1, vI f), (2, vI g), (3, vI t), (6, vI s)]) dX10_least_61 (Nat.le_of_ble_eq_true rfl) rfl ?_
          refine x_iinc 6 (L' := [(6, vI (s + 1)), (4, vJ x2), (7, vJ x2), (0, vA m), (1, vI f), (2, vI g), (3, vI t)]) dX10_least_63 rfl (by unfold okI; omega) (Nat.le_of_ble_eq_true rfl) rfl ?_
          refine x_goto 19 dX10_least_66 (by decide) ?_
          exact EX.pick [3, 4, 5, 6, 1, 0] rfl (ih_19 x2 (s + 1)  (by omega) (by omega) (by omega) (by rw [minS_s (by omega), ← hv]; show _ = min v (sF S f s + sF S g (t - s)); omega))
  exact EX.pick [2, 3, 4, 5, 1, 0] rfl (loop_19 ((t + 1 - (1 : Int)).toNat + 1) x1 1  (Nat.lt_succ_self _) (by omega) (by omega) (by rw [e_x1, show (1 : Int) = 0 + 1 by omega, minS_s (Int.le_refl 0)]; show _ = min (sF S f 0 + sF S g t) (sF S f 0 + sF S g (t - 0)); rw [Int.sub_zero]; omega))
set_option maxRecDepth 100000 in
set_option maxHeartbeats 4000000 in
theorem k_X10_most {G : aG} {d : Nat} (hd : 1 ≤ d) {m b1 b2 b3 b4 b5 b6 b7 b8 b9 lo hi : Nat} {S : aS} {nc : Nat} {h : aH} (hM : MRel m b1 b2 b3 b4 b5 b6 b7 b8 b9 lo hi S h) (hS : SOk nc S) {f g t p : Int} (hf : isC S f) (hg : isC S g) (ht0 : 0 ≤ t) (ht1 : t ≤ 1000) (hp0 : 0 ≤ p) (hp : p ≤ 60) : MC G mX10_most d 0 0 [vA m, vI f, vI g, vI t, vI p] h (Ret (vJ (offS (sF S f) (sF S g) (max (sT S f) (sT S g) + p) t)) h) := by
  obtain ⟨⟨o0, o1, o2, o3, o4, o5, o6, o7, o8, o9, oA⟩, hm, ⟨gT, gD, gC, gK, gA, hb1, hb2, hb3, hb4, hb5, hcu⟩, ⟨fr, hb6, hrw⟩, ⟨sm, hb7, hsm⟩, ⟨g8, hb8, htl⟩, ⟨gw, hb9⟩⟩ := id hM
  obtain ⟨⟨s1, s2⟩, s3, ⟨s4, s5⟩, ⟨s6, s7, s8⟩, s9, ⟨s10, s11⟩, s12⟩ := id hS
  have hcf := hcu f hf.1 hf.2
  obtain ⟨hT0f, hT2f, hD0f, hD6f, hC0f, hC1f, hAf, hMf, hWf⟩ := id (s3 f hf.1 hf.2)
  have hlf := hf.2
  have hzf := hf.1
  have hcg := hcu g hg.1 hg.2
  obtain ⟨hT0g, hT2g, hD0g, hD6g, hC0g, hC1g, hAg, hMg, hWg⟩ := id (s3 g hg.1 hg.2)
  have hlg := hg.2
  have hzg := hg.1
  refine MC.of (by decide) (Nat.le_of_ble_eq_true rfl) (fun ok okh => ?_)
  show EX G mX10_most d 0 0 _ 0 [(0, vA m), (1, vI f), (2, vI g), (3, vI t), (4, vI p)] [] h 0 0
  refine x_aload_n 0 dX10_most_0 rfl rfl ?_
  refine x_get 1 dX10_most_1 fl_X10_7 hm rfl ?_
  refine x_iload_n 1 dX10_most_4 rfl rfl ?_
  refine x_iaload dX10_most_5 hb1 (by omega) (by omega) ?_
  refine x_asI (y := (sT S f)) hcf.1 ?_
  refine x_aload_n 0 dX10_most_6 rfl rfl ?_
  refine x_get 1 dX10_most_7 fl_X10_7 hm rfl ?_
  refine x_iload_n 2 dX10_most_10 rfl rfl ?_
  refine x_iaload dX10_most_11 hb1 (by omega) (by omega) ?_
  refine x_asI (y := (sT S g)) hcg.1 ?_
  refine x_icmp_le 24 dX10_most_12 (by decide) (fun c_12 => ?_) (fun c_12 => ?_)
  · refine x_aload_n 0 dX10_most_24 rfl rfl ?_
    refine x_get 1 dX10_most_25 fl_X10_7 hm rfl ?_
    refine x_iload_n 2 dX10_most_28 rfl rfl ?_
    refine x_iaload dX10_most_29 hb1 (by omega) (by omega) ?_
    refine x_asI (y := (sT S g)) hcg.1 ?_
    refine x_iload 4 dX10_most_30 rfl ?_
    refine x_iadd dX10_most_32 (by unfold okI; omega) ?_
    refine x_nmI (fun n e_n => ?_)
    refine x_istore (L' := [(5, vI n), (0, vA m), (1, vI f), (2, vI g), (3, vI t), (4, vI p)]) dX10_most_33 (Nat.le_of_ble_eq_true rfl) rfl ?_
    have hn : n = (max (sT S f) (sT S g) + p) := by omega
    refine x_lconst (x := 0) dX10_most_35 (okJ_c rfl) rfl ?_
    refine x_lstore (L' := [(6, vJ 0), (5, vI n), (0, vA m), (1, vI f), (2, vI g), (3, vI t), (4, vI p)]) dX10_most_36 (Nat.le_of_ble_eq_true rfl) rfl ?_
    refine x_iconst dX10_most_38 (okI_c rfl) ?_
    refine x_istore (L' := [(8, vI 0), (6, vJ 0), (5, vI n), (0, vA m), (1, vI f), (2, vI g), (3, vI t), (4, vI p)]) dX10_most_39 (Nat.le_of_ble_eq_true rfl) rfl ?_
    have loop_41 : ∀ (k_41 : Nat) (v : Int) (u : Int) , (n - u).toNat < k_41 → (0 ≤ u) → (u ≤ n) → (v = sup0 (fun u => sF S f (t + u) - sF S g u) u.toNat) → EX G mX10_most d 0 0 (Ret (vJ (offS (sF S f) (sF S g) (max (sT S f) (sT S g) + p) t)) h) 41 [(0, vA m), (1, vI f), (2, vI g), (3, vI t), (5, vI n), (6, vJ v), (8, vI u)] [] h 0 0 := by
      intro k_41
      induction k_41 with
      | zero => intro v u hm; exact absurd hm (Nat.not_lt_zero _)
      | succ k_41 ih_41 =>
        intro v u hm_41 hu0 hun hv
        refine x_iload 6 dX10_most_41 rfl ?_
        refine x_iload 4 dX10_most_43 rfl ?_
        refine x_icmp_ge 92 dX10_most_45 (by decide) (fun c_45 => ?_) (fun c_45 => ?_)
        · refine x_lload 5 dX10_most_92 rfl ?_
          exact x_lreturn dX10_most_94 rfl (by decide) (by decide) (retJ (by rw [hv, show u = n by omega, hn]; rfl))
        · refine x_aload_n 0 dX10_most_48 rfl rfl ?_
          refine x_iload_n 1 dX10_most_49 rfl rfl ?_
          refine x_iload_n 3 dX10_most_50 rfl rfl ?_
          refine x_iload 6 dX10_most_51 rfl ?_
          refine x_iadd dX10_most_53 (by unfold okI; omega) ?_
          refine x_i2l dX10_most_54 ?_
          refine x_callV [vI f, vJ (t + u)] dX10_most_55 kv_X10_95 rfl rfl hm (by omega) (Nat.le_of_ble_eq_true rfl) (by omega) (by omega) (k_X10_value (d := 0) hM hS (f := f) (t := t + u) hf (by omega) (by omega)) (after_ret ?_)
          refine x_aload_n 0 dX10_most_58 rfl rfl ?_
          refine x_iload_n 2 dX10_most_59 rfl rfl ?_
          refine x_iload 6 dX10_most_60 rfl ?_
          refine x_i2l dX10_most_62 ?_
          refine x_callV [vI g, vJ u] dX10_most_63 kv_X10_95 rfl rfl hm (by omega) (Nat.le_of_ble_eq_true rfl) (by omega) (by omega) (k_X10_value (d := 0) hM hS (f := g) (t := u) hg (by omega) (by omega)) (after_ret ?_)
          have w1 : 0 ≤ sF S f (t + u) ∧ sF S f (t + u) ≤ 4000000000000 := cval_bnd (n := 3000) (s3 f hf.1 hf.2) (Int.le_refl _) (t + u) (by omega) (by omega)
          have w2 : 0 ≤ sF S g (u) ∧ sF S g (u) ≤ 4000000000000 := cval_bnd (n := 3000) (s3 g hg.1 hg.2) (Int.le_refl _) (u) (by omega) (by omega)
          refine x_lsub dX10_most_66 (by unfold okJ; omega) ?_
          refine x_nmJ (fun x1 e_x1 => ?_)
          refine x_lstore (L' := [(9, vJ x1), (0, vA m), (1, vI f), (2, vI g), (3, vI t), (5, vI n), (6, vJ v), (8, vI u)]) dX10_most_67 (Nat.le_of_ble_eq_true rfl) rfl ?_
          refine x_lload 0 dX10_most_69 rfl ?_
          refine x_lload 6 dX10_most_71 rfl ?_
          refine x_lc_le 82 dX10_most_73 dX10_most_74 (by decide) (fun c_73 => ?_) (fun c_73 => ?_)
          · refine x_lload 6 dX10_most_82 rfl ?_
            refine x_lstore (L' := [(6, vJ v), (9, vJ x1), (0, vA m), (1, vI f), (2, vI g), (3, vI t), (5, vI n), (8, vI u)]) dX10_most_84 (Nat.le_of_ble_eq_true rfl) rfl ?_
            refine x_iinc 7 (L' := [(8, vI (u + 1)), (6, vJ v), (9, vJ x1), (0, vA m), (1, vI f), (2, vI g), (3, vI t), (5, vI n)]) dX10_most_86 rfl (by unfold okI; omega) (Nat.le_of_ble_eq_true rfl) rfl ?_
            refine x_goto 41 dX10_most_89 (by decide) ?_
            exact EX.pick [3, 4, 5, 6, 7, 1, 0] rfl (ih_41 v (u + 1)  (by omega) (by omega) (by omega) (by rw [sup0_s (by omega), ← hv]; show _ = max v (sF S f (t + u) - sF S g u); omega))
          · refine x_lload 0 dX10_most_77 rfl ?_
            refine x_goto 84 dX10_most_79 (by decide) ?_
            refine x_lstore (L' := [(6, vJ x1), (9, vJ x1), (0, vA m), (1, vI f), (2, vI g), (3, vI t), (5, vI n), (8, vI u)]) dX10_most_84 (Nat.le_of_ble_eq_true rfl) rfl ?_
            refine x_iinc 7 (L' := [(8, vI (u + 1)), (6, vJ x1), (9, vJ x1), (0, vA m), (1, vI f), (2, vI g), (3, vI t), (5, vI n)]) dX10_most_86 rfl (by unfold okI; omega) (Nat.le_of_ble_eq_true rfl) rfl ?_
            refine x_goto 41 dX10_most_89 (by decide) ?_
            exact EX.pick [3, 4, 5, 6, 7, 1, 0] rfl (ih_41 x1 (u + 1)  (by omega) (by omega) (by omega) (by rw [sup0_s (by omega), ← hv]; show _ = max v (sF S f (t + u) - sF S g u); omega))
    exact EX.pick [3, 4, 5, 6, 2, 1, 0] rfl (loop_41 ((n - (0 : Int)).toNat + 1) 0 0  (Nat.lt_succ_self _) (by omega) (by omega) rfl)
  · refine x_aload_n 0 dX10_most_15 rfl rfl ?_
    refine x_get 1 dX10_most_16 fl_X10_7 hm rfl ?_
    refine x_iload_n 1 dX10_most_19 rfl rfl ?_
    refine x_iaload dX10_most_20 hb1 (by omega) (by omega) ?_
    refine x_asI (y := (sT S f)) hcf.1 ?_
    refine x_goto 30 dX10_most_21 (by decide) ?_
    refine x_iload 4 dX10_most_30 rfl ?_
    refine x_iadd dX10_most_32 (by unfold okI; omega) ?_
    refine x_nmI (fun n e_n => ?_)
    refine x_istore (L' := [(5, vI n), (0, vA m), (1, vI f), (2, vI g), (3, vI t), (4, vI p)]) dX10_most_33 (Nat.le_of_ble_eq_true rfl) rfl ?_
    have hn : n = (max (sT S f) (sT S g) + p) := by omega
    refine x_lconst (x := 0) dX10_most_35 (okJ_c rfl) rfl ?_
    refine x_lstore (L' := [(6, vJ 0), (5, vI n), (0, vA m), (1, vI f), (2, vI g), (3, vI t), (4, vI p)]) dX10_most_36 (Nat.le_of_ble_eq_true rfl) rfl ?_
    refine x_iconst dX10_most_38 (okI_c rfl) ?_
    refine x_istore (L' := [(8, vI 0), (6, vJ 0), (5, vI n), (0, vA m), (1, vI f), (2, vI g), (3, vI t), (4, vI p)]) dX10_most_39 (Nat.le_of_ble_eq_true rfl) rfl ?_
    have loop_41 : ∀ (k_41 : Nat) (v : Int) (u : Int) , (n - u).toNat < k_41 → (0 ≤ u) → (u ≤ n) → (v = sup0 (fun u => sF S f (t + u) - sF S g u) u.toNat) → EX G mX10_most d 0 0 (Ret (vJ (offS (sF S f) (sF S g) (max (sT S f) (sT S g) + p) t)) h) 41 [(0, vA m), (1, vI f), (2, vI g), (3, vI t), (5, vI n), (6, vJ v), (8, vI u)] [] h 0 0 := by
      intro k_41
      induction k_41 with
      | zero => intro v u hm; exact absurd hm (Nat.not_lt_zero _)
      | succ k_41 ih_41 =>
        intro v u hm_41 hu0 hun hv
        refine x_iload 6 dX10_most_41 rfl ?_
        refine x_iload 4 dX10_most_43 rfl ?_
        refine x_icmp_ge 92 dX10_most_45 (by decide) (fun c_45 => ?_) (fun c_45 => ?_)
        · refine x_lload 5 dX10_most_92 rfl ?_
          exact x_lreturn dX10_most_94 rfl (by decide) (by decide) (retJ (by rw [hv, show u = n by omega, hn]; rfl))
        · refine x_aload_n 0 dX10_most_48 rfl rfl ?_
          refine x_iload_n 1 dX10_most_49 rfl rfl ?_
          refine x_iload_n 3 dX10_most_50 rfl rfl ?_
          refine x_iload 6 dX10_most_51 rfl ?_
          refine x_iadd dX10_most_53 (by unfold okI; omega) ?_
          refine x_i2l dX10_most_54 ?_
          refine x_callV [vI f, vJ (t + u)] dX10_most_55 kv_X10_95 rfl rfl hm (by omega) (Nat.le_of_ble_eq_true rfl) (by omega) (by omega) (k_X10_value (d := 0) hM hS (f := f) (t := t + u) hf (by omega) (by omega)) (after_ret ?_)
          refine x_aload_n 0 dX10_most_58 rfl rfl ?_
          refine x_iload_n 2 dX10_most_59 rfl rfl ?_
          refine x_iload 6 dX10_most_60 rfl ?_
          refine x_i2l dX10_most_62 ?_
          refine x_callV [vI g, vJ u] dX10_most_63 kv_X10_95 rfl rfl hm (by omega) (Nat.le_of_ble_eq_true rfl) (by omega) (by omega) (k_X10_value (d := 0) hM hS (f := g) (t := u) hg (by omega) (by omega)) (after_ret ?_)
          have w1 : 0 ≤ sF S f (t + u) ∧ sF S f (t + u) ≤ 4000000000000 := cval_bnd (n := 3000) (s3 f hf.1 hf.2) (Int.le_refl _) (t + u) (by omega) (by omega)
          have w2 : 0 ≤ sF S g (u) ∧ sF S g (u) ≤ 4000000000000 := cval_bnd (n := 3000) (s3 g hg.1 hg.2) (Int.le_refl _) (u) (by omega) (by omega)
          refine x_lsub dX10_most_66 (by unfold okJ; omega) ?_
          refine x_nmJ (fun x2 e_x2 => ?_)
          refine x_lstore (L' := [(9, vJ x2), (0, vA m), (1, vI f), (2, vI g), (3, vI t), (5, vI n), (6, vJ v), (8, vI u)]) dX10_most_67 (Nat.le_of_ble_eq_true rfl) rfl ?_
          refine x_lload 0 dX10_most_69 rfl ?_
          refine x_lload 6 dX10_most_71 rfl ?_
          refine x_lc_le 82 dX10_most_73 dX10_most_74 (by decide) (fun c_73 => ?_) (fun c_73 => ?_)
          · refine x_lload 6 dX10_most_82 rfl ?_
            refine x_lstore (L' := [(6, vJ v), (9, vJ x2), (0, vA m), (1, vI f), (2, vI g), (3, vI t), (5, vI n), (8, vI u)]) dX10_most_84 (Nat.le_of_ble_eq_true rfl) rfl ?_
            refine x_iinc 7 (L' := [(8, vI (u + 1)), (6, vJ v), (9, vJ x2), (0, vA m), (1, vI f), (2, vI g), (3, vI t), (5, vI n)]) dX10_most_86 rfl (by unfold okI; omega) (Nat.le_of_ble_eq_true rfl) rfl ?_
            refine x_goto 41 dX10_most_89 (by decide) ?_
            exact EX.pick [3, 4, 5, 6, 7, 1, 0] rfl (ih_41 v (u + 1)  (by omega) (by omega) (by omega) (by rw [sup0_s (by omega), ← hv]; show _ = max v (sF S f (t + u) - sF S g u); omega))
          · refine x_lload 0 dX10_most_77 rfl ?_
            refine x_goto 84 dX10_most_79 (by decide) ?_
            refine x_lstore (L' := [(6, vJ x2), (9, vJ x2), (0, vA m), (1, vI f), (2, vI g), (3, vI t), (5, vI n), (8, vI u)]) dX10_most_84 (Nat.le_of_ble_eq_true rfl) rfl ?_
            refine x_iinc 7 (L' := [(8, vI (u + 1)), (6, vJ x2), (9, vJ x2), (0, vA m), (1, vI f), (2, vI g), (3, vI t), (5, vI n)]) dX10_most_86 rfl (by unfold okI; omega) (Nat.le_of_ble_eq_true rfl) rfl ?_
            refine x_goto 41 dX10_most_89 (by decide) ?_
            exact EX.pick [3, 4, 5, 6, 7, 1, 0] rfl (ih_41 x2 (u + 1)  (by omega) (by omega) (by omega) (by rw [sup0_s (by omega), ← hv]; show _ = max v (sF S f (t + u) - sF S g u); omega))
    exact EX.pick [3, 4, 5, 6, 2, 1, 0] rfl (loop_41 ((n - (0 : Int)).toNat + 1) 0 0  (Nat.lt_succ_self _) (by omega) (by omega) rfl)
set_option maxRecDepth 100000 in
set_option maxHeartbeats 4000000 in
theorem k_X10_came {G : aG} {d : Nat} {m b1 b2 b3 b4 b5 b6 b7 b8 b9 lo hi : Nat} {S : aS} {nc : Nat} {h : aH} (hM : MRel m b1 b2 b3 b4 b5 b6 b7 b8 b9 lo hi S h) (hS : SOk nc S) {t : Int} (ht0 : 0 ≤ t) : MC G mX10_came d 0 0 [vA m, vI t] h (Ret (vJ (arrS (sSn S) (sSm S) t)) h) := by
  obtain ⟨⟨o0, o1, o2, o3, o4, o5, o6, o7, o8, o9, oA⟩, hm, ⟨gT, gD, gC, gK, gA, hb1, hb2, hb3, hb4, hb5, hcu⟩, ⟨fr, hb6, hrw⟩, ⟨sm, hb7, hsm⟩, ⟨g8, hb8, htl⟩, ⟨gw, hb9⟩⟩ := id hM
  obtain ⟨⟨s1, s2⟩, s3, ⟨s4, s5⟩, ⟨s6, s7, s8⟩, s9, ⟨s10, s11⟩, s12⟩ := id hS
  refine MC.of (by decide) (Nat.le_of_ble_eq_true rfl) (fun ok okh => ?_)
  show EX G mX10_came d 0 0 _ 0 [(0, vA m), (1, vI t)] [] h 0 0
  refine x_lconst (x := 0) dX10_came_0 (okJ_c rfl) rfl ?_
  refine x_lstore_n (L' := [(2, vJ 0), (0, vA m), (1, vI t)]) dX10_came_1 rfl (Nat.le_of_ble_eq_true rfl) rfl ?_
  refine x_iconst dX10_came_2 (okI_c rfl) ?_
  refine x_istore (L' := [(4, vI 0), (2, vJ 0), (0, vA m), (1, vI t)]) dX10_came_3 (Nat.le_of_ble_eq_true rfl) rfl ?_
  have loop_5 : ∀ (k_5 : Nat) (v : Int) (k : Int) , (t - k).toNat < k_5 → (0 ≤ k) → (k ≤ t) → (k ≤ sSn S) → (v = psum (sSm S) k.toNat) → (0 ≤ v) → (v ≤ k * 1000000000) → EX G mX10_came d 0 0 (Ret (vJ (arrS (sSn S) (sSm S) t)) h) 5 [(0, vA m), (1, vI t), (2, vJ v), (4, vI k)] [] h 0 0 := by
    intro k_5
    induction k_5 with
    | zero => intro v k hm; exact absurd hm (Nat.not_lt_zero _)
    | succ k_5 ih_5 =>
      intro v k hm_5 hk0 hkt hkn hv hv0 hv1
      refine x_iload 3 dX10_came_5 rfl ?_
      refine x_iload_n 1 dX10_came_7 rfl rfl ?_
      refine x_icmp_ge 36 dX10_came_8 (by decide) (fun c_8 => ?_) (fun c_8 => ?_)
      · refine x_lload_n 2 dX10_came_36 rfl rfl ?_
        exact x_lreturn dX10_came_37 rfl (by decide) (by decide) (retJ (by rw [hv, arrS, show min t (sSn S) = k by omega]))
      · refine x_iload 3 dX10_came_11 rfl ?_
        refine x_aload_n 0 dX10_came_13 rfl rfl ?_
        refine x_get 10 dX10_came_14 fl_X10_147 hm rfl ?_
        refine x_icmp_ge 36 dX10_came_17 (by decide) (fun c_17 => ?_) (fun c_17 => ?_)
        · refine x_lload_n 2 dX10_came_36 rfl rfl ?_
          exact x_lreturn dX10_came_37 rfl (by decide) (by decide) (retJ (by rw [hv, arrS, show min t (sSn S) = k by omega]))
        · have w2 := s9.2.1
          refine x_lload_n 2 dX10_came_20 rfl rfl ?_
          refine x_aload_n 0 dX10_came_21 rfl rfl ?_
          refine x_get 9 dX10_came_22 fl_X10_29 hm rfl ?_
          refine x_iload 3 dX10_came_25 rfl ?_
          refine x_laload dX10_came_27 hb7 (by omega) (by omega) ?_
          refine x_asJ (y := (sSm S k.toNat)) (hsm k (by omega) (by omega)) ?_
          have w1 := s9.2.2 k (by omega) (by omega)
          refine x_ladd dX10_came_28 (by unfold okJ; omega) ?_
          refine x_nmJ (fun x1 e_x1 => ?_)
          refine x_lstore_n (L' := [(2, vJ x1), (0, vA m), (1, vI t), (4, vI k)]) dX10_came_29 rfl (Nat.le_of_ble_eq_true rfl) rfl ?_
          refine x_iinc 3 (L' := [(4, vI (k + 1)), (2, vJ x1), (0, vA m), (1, vI t)]) dX10_came_30 rfl (by unfold okI; omega) (Nat.le_of_ble_eq_true rfl) rfl ?_
          refine x_goto 5 dX10_came_33 (by decide) ?_
          exact EX.pick [2, 3, 1, 0] rfl (ih_5 x1 (k + 1)  (by omega) (by omega) (by omega) (by omega) (by rw [psum_s (by omega), ← hv]; omega) (by omega) (by omega))
  exact EX.pick [2, 3, 1, 0] rfl (loop_5 ((t - (0 : Int)).toNat + 1) 0 0  (Nat.lt_succ_self _) (by omega) (by omega) s9.1 rfl (by omega) (by omega))
theorem arr_s {n s : Int} {sm : Nat → Int} (hs : 0 ≤ s) : arrS n sm (s + 1) = arrS n sm s + (if s < n then sm s.toNat else 0) := by
  unfold arrS
  by_cases q : s < n
  · rw [if_pos q, show min (s + 1) n = s + 1 by omega, show min s n = s by omega, psum_s hs]
  · rw [if_neg q, show min (s + 1) n = n by omega, show min s n = n by omega, Int.add_zero]
theorem arr_z {n : Int} {sm : Nat → Int} (h : 0 ≤ n) : arrS n sm 0 = 0 := by
  rw [arrS, show min 0 n = 0 by omega]; rfl
set_option maxRecDepth 100000 in
set_option maxHeartbeats 4000000 in
theorem k_X10_served {G : aG} {d : Nat} (hd : 1 ≤ d) {m b1 b2 b3 b4 b5 b6 b7 b8 b9 lo hi : Nat} {S : aS} {nc : Nat} {h : aH} (hM : MRel m b1 b2 b3 b4 b5 b6 b7 b8 b9 lo hi S h) (hS : SOk nc S) (hv : isC S (sSv S)) {t : Int} (ht0 : 0 ≤ t) (ht1 : t ≤ 1000) : MC G mX10_served d 0 0 [vA m, vI t] h (Ret (vJ (servS (sSn S) (sSm S) (sF S (sSv S)) t)) h) := by
  obtain ⟨⟨o0, o1, o2, o3, o4, o5, o6, o7, o8, o9, oA⟩, hm, ⟨gT, gD, gC, gK, gA, hb1, hb2, hb3, hb4, hb5, hcu⟩, ⟨fr, hb6, hrw⟩, ⟨sm, hb7, hsm⟩, ⟨g8, hb8, htl⟩, ⟨gw, hb9⟩⟩ := id hM
  obtain ⟨⟨s1, s2⟩, s3, ⟨s4, s5⟩, ⟨s6, s7, s8⟩, s9, ⟨s10, s11⟩, s12⟩ := id hS
  refine MC.of (by decide) (Nat.le_of_ble_eq_true rfl) (fun ok okh => ?_)
  show EX G mX10_served d 0 0 _ 0 [(0, vA m), (1, vI t)] [] h 0 0
  refine x_aload_n 0 dX10_served_0 rfl rfl ?_
  refine x_iload_n 1 dX10_served_1 rfl rfl ?_
  refine x_callV [vI t] dX10_served_2 kv_X10_150 rfl rfl hm (by omega) (Nat.le_of_ble_eq_true rfl) (by omega) (by omega) (k_X10_came (d := 0) hM hS (t := t) ht0) (after_ret ?_)
  refine x_nmJ (fun x1 e_x1 => ?_)
  refine x_lstore_n (L' := [(2, vJ x1), (0, vA m), (1, vI t)]) dX10_served_5 rfl (Nat.le_of_ble_eq_true rfl) rfl ?_
  refine x_lconst (x := 0) dX10_served_6 (okJ_c rfl) rfl ?_
  refine x_lstore (L' := [(4, vJ 0), (2, vJ x1), (0, vA m), (1, vI t)]) dX10_served_7 (Nat.le_of_ble_eq_true rfl) rfl ?_
  refine x_iconst dX10_served_9 (okI_c rfl) ?_
  refine x_istore (L' := [(6, vI 0), (4, vJ 0), (2, vJ x1), (0, vA m), (1, vI t)]) dX10_served_10 (Nat.le_of_ble_eq_true rfl) rfl ?_
  have loop_12 : ∀ (k_12 : Nat) (v : Int) (a : Int) (s : Int) , (t + 1 - s).toNat < k_12 → (0 ≤ s) → (s ≤ t + 1) → (a = arrS (sSn S) (sSm S) s) → (v = minS (fun s => arrS (sSn S) (sSm S) s + (sF S (sSv S)) (t - s)) (arrS (sSn S) (sSm S) t) s.toNat) → EX G mX10_served d 0 0 (Ret (vJ (servS (sSn S) (sSm S) (sF S (sSv S)) t)) h) 12 [(0, vA m), (1, vI t), (2, vJ v), (4, vJ a), (6, vI s)] [] h 0 0 := by
    intro k_12
    induction k_12 with
    | zero => intro v a s hm; exact absurd hm (Nat.not_lt_zero _)
    | succ k_12 ih_12 =>
      intro v a s hm_12 hs0 hst ha hw
      refine x_iload 4 dX10_served_12 rfl ?_
      refine x_iload_n 1 dX10_served_14 rfl rfl ?_
      refine x_icmp_gt 81 dX10_served_15 (by decide) (fun c_15 => ?_) (fun c_15 => ?_)
      · refine x_lload_n 2 dX10_served_81 rfl rfl ?_
        exact x_lreturn dX10_served_82 rfl (by decide) (by decide) (retJ (by rw [hw, show s = t + 1 by omega]; rfl))
      · refine x_lload 3 dX10_served_18 rfl ?_
        refine x_aload_n 0 dX10_served_20 rfl rfl ?_
        refine x_aload_n 0 dX10_served_21 rfl rfl ?_
        refine x_get 11 dX10_served_22 fl_X10_32 hm rfl ?_
        refine x_iload_n 1 dX10_served_25 rfl rfl ?_
        refine x_iload 4 dX10_served_26 rfl ?_
        refine x_isub dX10_served_28 (by unfold okI; omega) ?_
        refine x_i2l dX10_served_29 ?_
        refine x_callV [vI ((sSv S)), vJ (t - s)] dX10_served_30 kv_X10_95 rfl rfl hm (by omega) (Nat.le_of_ble_eq_true rfl) (by omega) (by omega) (k_X10_value (d := 0) hM hS (f := (sSv S)) (t := t - s) hv (by omega) (by omega)) (after_ret ?_)
        have w1 : 0 ≤ sF S (sSv S) (t - s) ∧ sF S (sSv S) (t - s) ≤ 4000000000000 := cval_bnd (n := 3000) (s3 (sSv S) hv.1 hv.2) (Int.le_refl _) (t - s) (by omega) (by omega)
        have w2 := arr_top s9 hs0
        refine x_ladd dX10_served_33 (by unfold okJ; omega) ?_
        refine x_nmJ (fun x2 e_x2 => ?_)
        refine x_lstore (L' := [(7, vJ x2), (0, vA m), (1, vI t), (2, vJ v), (4, vJ a), (6, vI s)]) dX10_served_34 (Nat.le_of_ble_eq_true rfl) rfl ?_
        refine x_lload 0 dX10_served_36 rfl ?_
        refine x_lload_n 3 dX10_served_38 rfl rfl ?_
        refine x_lc_ge 48 dX10_served_39 dX10_served_40 (by decide) (fun c_39 => ?_) (fun c_39 => ?_)
        · refine x_lload_n 3 dX10_served_48 rfl rfl ?_
          refine x_lstore_n (L' := [(2, vJ v), (7, vJ x2), (0, vA m), (1, vI t), (4, vJ a), (6, vI s)]) dX10_served_49 rfl (Nat.le_of_ble_eq_true rfl) rfl ?_
          refine x_lload 4 dX10_served_50 rfl ?_
          refine x_iload 5 dX10_served_52 rfl ?_
          refine x_aload_n 2 dX10_served_54 rfl rfl ?_
          refine x_get 10 dX10_served_55 fl_X10_147 hm rfl ?_
          refine x_icmp_ge 71 dX10_served_58 (by decide) (fun c_58 => ?_) (fun c_58 => ?_)
          · refine x_lconst (x := 0) dX10_served_71 (okJ_c rfl) rfl ?_
            refine x_ladd dX10_served_72 (by unfold okJ; omega) ?_
            refine x_nmJ (fun x3 e_x3 => ?_)
            refine x_lstore (L' := [(4, vJ x3), (2, vJ v), (7, vJ x2), (0, vA m), (1, vI t), (6, vI s)]) dX10_served_73 (Nat.le_of_ble_eq_true rfl) rfl ?_
            refine x_iinc 5 (L' := [(6, vI (s + 1)), (4, vJ x3), (2, vJ v), (7, vJ x2), (0, vA m), (1, vI t)]) dX10_served_75 rfl (by unfold okI; omega) (Nat.le_of_ble_eq_true rfl) rfl ?_
            refine x_goto 12 dX10_served_78 (by decide) ?_
            exact EX.pick [4, 5, 2, 1, 0] rfl (ih_12 v x3 (s + 1)  (by omega) (by omega) (by omega) (by rw [arr_s hs0, ← ha]; split <;> omega) (by rw [minS_s (by omega), ← hw]; show _ = min v (arrS (sSn S) (sSm S) s + (sF S (sSv S)) (t - s)); omega))
          · have ws := s9.2.1
            refine x_aload_n 2 dX10_served_61 rfl rfl ?_
            refine x_get 9 dX10_served_62 fl_X10_29 hm rfl ?_
            refine x_iload 5 dX10_served_65 rfl ?_
            refine x_laload dX10_served_67 hb7 (by omega) (by omega) ?_
            refine x_asJ (y := (sSm S s.toNat)) (hsm s (by omega) (by omega)) ?_
            have w3 := s9.2.2 s (by omega) (by omega)
            refine x_goto 72 dX10_served_68 (by decide) ?_
            refine x_ladd dX10_served_72 (by unfold okJ; omega) ?_
            refine x_nmJ (fun x4 e_x4 => ?_)
            refine x_lstore (L' := [(4, vJ x4), (2, vJ v), (7, vJ x2), (0, vA m), (1, vI t), (6, vI s)]) dX10_served_73 (Nat.le_of_ble_eq_true rfl) rfl ?_
            refine x_iinc 5 (L' := [(6, vI (s + 1)), (4, vJ x4), (2, vJ v), (7, vJ x2), (0, vA m), (1, vI t)]) dX10_served_75 rfl (by unfold okI; omega) (Nat.le_of_ble_eq_true rfl) rfl ?_
            refine x_goto 12 dX10_served_78 (by decide) ?_
            exact EX.pick [4, 5, 2, 1, 0] rfl (ih_12 v x4 (s + 1)  (by omega) (by omega) (by omega) (by rw [arr_s hs0, ← ha]; split <;> omega) (by rw [minS_s (by omega), ← hw]; show _ = min v (arrS (sSn S) (sSm S) s + (sF S (sSv S)) (t - s)); omega))
        · refine x_lload 0 dX10_served_43 rfl ?_
          refine x_goto 49 dX10_served_45 (by decide) ?_
          refine x_lstore_n (L' := [(2, vJ x2), (7, vJ x2), (0, vA m), (1, vI t), (4, vJ a), (6, vI s)]) dX10_served_49 rfl (Nat.le_of_ble_eq_true rfl) rfl ?_
          refine x_lload 4 dX10_served_50 rfl ?_
          refine x_iload 5 dX10_served_52 rfl ?_
          refine x_aload_n 2 dX10_served_54 rfl rfl ?_
          refine x_get 10 dX10_served_55 fl_X10_147 hm rfl ?_
          refine x_icmp_ge 71 dX10_served_58 (by decide) (fun c_58 => ?_) (fun c_58 => ?_)
          · refine x_lconst (x := 0) dX10_served_71 (okJ_c rfl) rfl ?_
            refine x_ladd dX10_served_72 (by unfold okJ; omega) ?_
            refine x_nmJ (fun x5 e_x5 => ?_)
            refine x_lstore (L' := [(4, vJ x5), (2, vJ x2), (7, vJ x2), (0, vA m), (1, vI t), (6, vI s)]) dX10_served_73 (Nat.le_of_ble_eq_true rfl) rfl ?_
            refine x_iinc 5 (L' := [(6, vI (s + 1)), (4, vJ x5), (2, vJ x2), (7, vJ x2), (0, vA m), (1, vI t)]) dX10_served_75 rfl (by unfold okI; omega) (Nat.le_of_ble_eq_true rfl) rfl ?_
            refine x_goto 12 dX10_served_78 (by decide) ?_
            exact EX.pick [4, 5, 2, 1, 0] rfl (ih_12 x2 x5 (s + 1)  (by omega) (by omega) (by omega) (by rw [arr_s hs0, ← ha]; split <;> omega) (by rw [minS_s (by omega), ← hw]; show _ = min v (arrS (sSn S) (sSm S) s + (sF S (sSv S)) (t - s)); omega))
          · have ws := s9.2.1
            refine x_aload_n 2 dX10_served_61 rfl rfl ?_
            refine x_get 9 dX10_served_62 fl_X10_29 hm rfl ?_
            refine x_iload 5 dX10_served_65 rfl ?_
            refine x_laload dX10_served_67 hb7 (by omega) (by omega) ?_
            refine x_asJ (y := (sSm S s.toNat)) (hsm s (by omega) (by omega)) ?_
            have w3 := s9.2.2 s (by omega) (by omega)
            refine x_goto 72 dX10_served_68 (by decide) ?_
            refine x_ladd dX10_served_72 (by unfold okJ; omega) ?_
            refine x_nmJ (fun x6 e_x6 => ?_)
            refine x_lstore (L' := [(4, vJ x6), (2, vJ x2), (7, vJ x2), (0, vA m), (1, vI t), (6, vI s)]) dX10_served_73 (Nat.le_of_ble_eq_true rfl) rfl ?_
            refine x_iinc 5 (L' := [(6, vI (s + 1)), (4, vJ x6), (2, vJ x2), (7, vJ x2), (0, vA m), (1, vI t)]) dX10_served_75 rfl (by unfold okI; omega) (Nat.le_of_ble_eq_true rfl) rfl ?_
            refine x_goto 12 dX10_served_78 (by decide) ?_
            exact EX.pick [4, 5, 2, 1, 0] rfl (ih_12 x2 x6 (s + 1)  (by omega) (by omega) (by omega) (by rw [arr_s hs0, ← ha]; split <;> omega) (by rw [minS_s (by omega), ← hw]; show _ = min v (arrS (sSn S) (sSm S) s + (sF S (sSv S)) (t - s)); omega))
  exact EX.pick [3, 4, 2, 1, 0] rfl (loop_12 ((t + 1 - (0 : Int)).toNat + 1) x1 0 0  (Nat.lt_succ_self _) (by omega) (by omega) (arr_z s9.1).symm (by rw [e_x1]; rfl))
set_option maxRecDepth 100000 in
set_option maxHeartbeats 4000000 in
theorem k_X10_lateAt {G : aG} {d : Nat} (hd : 2 ≤ d) {m b1 b2 b3 b4 b5 b6 b7 b8 b9 lo hi : Nat} {S : aS} {nc : Nat} {h : aH} (hM : MRel m b1 b2 b3 b4 b5 b6 b7 b8 b9 lo hi S h) (hS : SOk nc S) (hv : isC S (sSv S)) {t : Int} (ht0 : 0 ≤ t) (ht1 : t ≤ 100) : MC G mX10_lateAt d 0 0 [vA m, vI t] h (Ret (vI (lateS (sSn S) (sSm S) (sF S (sSv S)) t)) h) := by
  obtain ⟨⟨o0, o1, o2, o3, o4, o5, o6, o7, o8, o9, oA⟩, hm, ⟨gT, gD, gC, gK, gA, hb1, hb2, hb3, hb4, hb5, hcu⟩, ⟨fr, hb6, hrw⟩, ⟨sm, hb7, hsm⟩, ⟨g8, hb8, htl⟩, ⟨gw, hb9⟩⟩ := id hM
  obtain ⟨⟨s1, s2⟩, s3, ⟨s4, s5⟩, ⟨s6, s7, s8⟩, s9, ⟨s10, s11⟩, s12⟩ := id hS
  refine MC.of (by decide) (Nat.le_of_ble_eq_true rfl) (fun ok okh => ?_)
  show EX G mX10_lateAt d 0 0 _ 0 [(0, vA m), (1, vI t)] [] h 0 0
  refine x_aload_n 0 dX10_lateAt_0 rfl rfl ?_
  refine x_iload_n 1 dX10_lateAt_1 rfl rfl ?_
  refine x_callV [vI t] dX10_lateAt_2 kv_X10_150 rfl rfl hm (by omega) (Nat.le_of_ble_eq_true rfl) (by omega) (by omega) (k_X10_came (d := 0) hM hS (t := t) ht0) (after_ret ?_)
  refine x_nmJ (fun x1 e_x1 => ?_)
  refine x_lstore_n (L' := [(2, vJ x1), (0, vA m), (1, vI t)]) dX10_lateAt_5 rfl (Nat.le_of_ble_eq_true rfl) rfl ?_
  refine x_iconst dX10_lateAt_6 (okI_c rfl) ?_
  refine x_istore (L' := [(4, vI 0), (2, vJ x1), (0, vA m), (1, vI t)]) dX10_lateAt_7 (Nat.le_of_ble_eq_true rfl) rfl ?_
  have loop_9 : ∀ (k_9 : Nat) (w : Int) , (501 - w).toNat < k_9 → (0 ≤ w) → (w ≤ 501) → (∀ u : Int, 0 ≤ u → u < w → servS (sSn S) (sSm S) (sF S (sSv S)) (t + u) < x1) → EX G mX10_lateAt d 0 0 (Ret (vI (lateS (sSn S) (sSm S) (sF S (sSv S)) t)) h) 9 [(0, vA m), (1, vI t), (2, vJ x1), (4, vI w)] [] h 0 0 := by
    intro k_9
    induction k_9 with
    | zero => intro w hm; exact absurd hm (Nat.not_lt_zero _)
    | succ k_9 ih_9 =>
      intro w hm_9 hw0 hw1 hw
      refine x_iload 3 dX10_lateAt_9 rfl ?_
      refine x_sipush dX10_lateAt_11 (okI_c rfl) (by decide +kernel) ?_
      refine x_icmp_gt 39 dX10_lateAt_14 (by decide) (fun c_14 => ?_) (fun c_14 => ?_)
      · refine x_iconst dX10_lateAt_39 (okI_c rfl) ?_
        exact x_ireturn dX10_lateAt_40 rfl (by decide) (by decide) (retI (First.eq (F := fun w => servS (sSn S) (sSm S) (sF S (sSv S)) (t + w)) (Or.inl ⟨rfl, fun u q1 q2 => by rw [← e_x1]; exact hw u q1 (by omega)⟩)))
      · refine x_aload_n 0 dX10_lateAt_17 rfl rfl ?_
        refine x_iload_n 1 dX10_lateAt_18 rfl rfl ?_
        refine x_iload 3 dX10_lateAt_19 rfl ?_
        refine x_iadd dX10_lateAt_21 (by unfold okI; omega) ?_
        refine x_callV [vI (t + w)] dX10_lateAt_22 kv_X10_157 rfl rfl hm (by omega) (Nat.le_of_ble_eq_true rfl) (by omega) (by omega) (k_X10_served (d := 1) (by omega) hM hS hv (t := t + w) (by omega) (by omega)) (after_ret ?_)
        refine x_lload_n 2 dX10_lateAt_25 rfl rfl ?_
        refine x_lc_lt 33 dX10_lateAt_26 dX10_lateAt_27 (by decide) (fun c_26 => ?_) (fun c_26 => ?_)
        · refine x_iinc 3 (L' := [(4, vI (w + 1)), (0, vA m), (1, vI t), (2, vJ x1)]) dX10_lateAt_33 rfl (by unfold okI; omega) (Nat.le_of_ble_eq_true rfl) rfl ?_
          refine x_goto 9 dX10_lateAt_36 (by decide) ?_
          exact EX.pick [1, 2, 3, 0] rfl (ih_9 (w + 1)  (by omega) (by omega) (by omega) (fun u q1 q2 => by by_cases q : u = w; subst q; exact (by omega); exact hw u q1 (by omega)))
        · refine x_iload 3 dX10_lateAt_30 rfl ?_
          exact x_ireturn dX10_lateAt_32 rfl (by decide) (by decide) (retI (First.eq (F := fun w => servS (sSn S) (sSm S) (sF S (sSv S)) (t + w)) (Or.inr ⟨by omega, by omega, by show _ ≤ servS (sSn S) (sSm S) (sF S (sSv S)) (t + w); omega, fun u q1 q2 => by rw [← e_x1]; exact hw u q1 q2⟩)))
  exact EX.pick [2, 3, 1, 0] rfl (loop_9 ((501 - (0 : Int)).toNat + 1) 0  (Nat.lt_succ_self _) (by omega) (by omega) (fun u q1 q2 => by omega))
set_option maxRecDepth 100000 in
set_option maxHeartbeats 4000000 in
theorem k_X10_comesRound {G : aG} {d : Nat} {m b1 b2 b3 b4 b5 b6 b7 b8 b9 lo hi : Nat} {S : aS} {h : aH} (hM : MRel m b1 b2 b3 b4 b5 b6 b7 b8 b9 lo hi S h) {gv : Nat → Int} (hb : h b9 = some (eJ 760 gv)) {H : Int → Int} (hv : Tells gv H 760) (bH : Bnd H 760 4000000000000000) {dd c a0 : Int} (hfr : 0 ≤ a0) (hf2 : a0 ≤ 640) (hd1 : 0 ≤ dd) (hd2 : dd ≤ 60) (hc0 : 0 ≤ c) (hc : c ≤ 1000000000000) : MC G mX10_comesRound d 0 0 [vA m, vI dd, vJ c, vI a0] h (Ret (vI (b2i (∀ t : Int, a0 ≤ t → t < 640 → H (t + dd) = H t + c))) h) := by
  obtain ⟨⟨o0, o1, o2, o3, o4, o5, o6, o7, o8, o9, oA⟩, hm, ⟨gT, gD, gC, gK, gA, hb1, hb2, hb3, hb4, hb5, hcu⟩, ⟨fr, hb6, hrw⟩, ⟨sm, hb7, hsm⟩, ⟨g8, hb8, htl⟩, ⟨gw, hb9⟩⟩ := id hM
  refine MC.of (by decide) (Nat.le_of_ble_eq_true rfl) (fun ok okh => ?_)
  show EX G mX10_comesRound d 0 0 _ 0 [(0, vA m), (1, vI dd), (2, vJ c), (4, vI a0)] [] h 0 0
  refine x_iconst dX10_comesRound_0 (okI_c rfl) ?_
  refine x_istore (L' := [(5, vI 1), (0, vA m), (1, vI dd), (2, vJ c), (4, vI a0)]) dX10_comesRound_1 (Nat.le_of_ble_eq_true rfl) rfl ?_
  refine x_iload 4 dX10_comesRound_3 rfl ?_
  refine x_istore (L' := [(6, vI a0), (5, vI 1), (0, vA m), (1, vI dd), (2, vJ c), (4, vI a0)]) dX10_comesRound_5 (Nat.le_of_ble_eq_true rfl) rfl ?_
  have loop_7 : ∀ (k_7 : Nat) (is : Int) (t : Int) , (640 - t).toNat < k_7 → (a0 ≤ t) → (t ≤ 640) → (is = b2i (∀ u : Int, a0 ≤ u → u < t → H (u + dd) = H u + c)) → EX G mX10_comesRound d 0 0 (Ret (vI (b2i (∀ t : Int, a0 ≤ t → t < 640 → H (t + dd) = H t + c))) h) 7 [(0, vA m), (1, vI dd), (2, vJ c), (5, vI is), (6, vI t)] [] h 0 0 := by
    intro k_7
    induction k_7 with
    | zero => intro is t hm; exact absurd hm (Nat.not_lt_zero _)
    | succ k_7 ih_7 =>
      intro is t hm_7 ht0 ht1 his
      refine x_iload 4 dX10_comesRound_7 rfl ?_
      refine x_sipush dX10_comesRound_9 (okI_c rfl) (by decide +kernel) ?_
      refine x_icmp_ge 55 dX10_comesRound_12 (by decide) (fun c_12 => ?_) (fun c_12 => ?_)
      · refine x_iload 3 dX10_comesRound_55 rfl ?_
        exact x_zreturn dX10_comesRound_57 rfl (by rw [his]; exact b2i_or _) (by decide) (by decide) (retI (by first | (rw [his, show t = 640 by omega]) | (rw [c_17]; exact (b2i_f (fun z => (b2i_eq (P := ∀ u : Int, a0 ≤ u → u < t → H (u + dd) = H u + c) (by rw [← his]; exact c_17)) (fun u q1 q2 => z u q1 (by omega)))).symm)))
      · refine x_iload 3 dX10_comesRound_15 rfl ?_
        refine x_if_eq 55 dX10_comesRound_17 (by decide) (fun c_17 => ?_) (fun c_17 => ?_)
        · refine x_iload 3 dX10_comesRound_55 rfl ?_
          exact x_zreturn dX10_comesRound_57 rfl (by rw [his]; exact b2i_or _) (by decide) (by decide) (retI (by first | (rw [his, show t = 640 by omega]) | (rw [c_17]; exact (b2i_f (fun z => (b2i_eq (P := ∀ u : Int, a0 ≤ u → u < t → H (u + dd) = H u + c) (by rw [← his]; exact c_17)) (fun u q1 q2 => z u q1 (by omega)))).symm)))
        · have hp : ∀ u : Int, a0 ≤ u → u < t → H (u + dd) = H u + c := b2i_ne (by rw [← his]; exact c_17)
          refine x_aload_n 0 dX10_comesRound_20 rfl rfl ?_
          refine x_get 14 dX10_comesRound_21 fl_X10_39 hm rfl ?_
          refine x_iload 4 dX10_comesRound_24 rfl ?_
          refine x_iload_n 1 dX10_comesRound_26 rfl rfl ?_
          refine x_iadd dX10_comesRound_27 (by unfold okI; omega) ?_
          refine x_laload dX10_comesRound_28 hb (by omega) (by omega) ?_
          refine x_asJ (y := (H (t + dd))) (hv (t + dd) (by omega) (by omega)) ?_
          refine x_aload_n 0 dX10_comesRound_29 rfl rfl ?_
          refine x_get 14 dX10_comesRound_30 fl_X10_39 hm rfl ?_
          refine x_iload 4 dX10_comesRound_33 rfl ?_
          refine x_laload dX10_comesRound_35 hb (by omega) (by omega) ?_
          refine x_asJ (y := (H t)) (hv t (by omega) (by omega)) ?_
          refine x_lload_n 2 dX10_comesRound_36 rfl rfl ?_
          refine x_ladd dX10_comesRound_37 (by have := bH t (by omega) (by omega); unfold okJ; omega) ?_
          refine x_lc_ne 46 dX10_comesRound_38 dX10_comesRound_39 (by decide) (fun c_38 => ?_) (fun c_38 => ?_)
          · refine x_iconst dX10_comesRound_46 (okI_c rfl) ?_
            refine x_istore (L' := [(5, vI 0), (0, vA m), (1, vI dd), (2, vJ c), (6, vI t)]) dX10_comesRound_47 (Nat.le_of_ble_eq_true rfl) rfl ?_
            refine x_iinc 4 (L' := [(6, vI (t + 1)), (5, vI 0), (0, vA m), (1, vI dd), (2, vJ c)]) dX10_comesRound_49 rfl (by unfold okI; omega) (Nat.le_of_ble_eq_true rfl) rfl ?_
            refine x_goto 7 dX10_comesRound_52 (by decide) ?_
            exact EX.pick [2, 3, 4, 1, 0] rfl (ih_7 0 (t + 1)  (by omega) (by omega) (by omega) (b2i_f (fun z => c_38 (z t (by omega) (by omega)))).symm)
          · refine x_iconst dX10_comesRound_42 (okI_c rfl) ?_
            refine x_goto 47 dX10_comesRound_43 (by decide) ?_
            refine x_istore (L' := [(5, vI 1), (0, vA m), (1, vI dd), (2, vJ c), (6, vI t)]) dX10_comesRound_47 (Nat.le_of_ble_eq_true rfl) rfl ?_
            refine x_iinc 4 (L' := [(6, vI (t + 1)), (5, vI 1), (0, vA m), (1, vI dd), (2, vJ c)]) dX10_comesRound_49 rfl (by unfold okI; omega) (Nat.le_of_ble_eq_true rfl) rfl ?_
            refine x_goto 7 dX10_comesRound_52 (by decide) ?_
            exact EX.pick [2, 3, 4, 1, 0] rfl (ih_7 1 (t + 1)  (by omega) (by omega) (by omega) (b2i_t (fun u q1 q2 => by by_cases q : u = t; subst q; exact c_38; exact hp u q1 (by omega))).symm)
  exact EX.pick [2, 3, 4, 1, 0] rfl (loop_7 ((640 - (a0 : Int)).toNat + 1) 1 a0  (Nat.lt_succ_self _) (by omega) (by omega) (b2i_t (fun u q1 q2 => by omega)).symm)
set_option maxRecDepth 100000 in
set_option maxHeartbeats 4000000 in
theorem k_X10_kindOf {G : aG} {d : Nat} {m b1 b2 b3 b4 b5 b6 b7 b8 b9 lo hi : Nat} {S : aS} {h : aH} {gT gD gC gA : Nat → Int} (hm : h m = some (eO 9 [vI ((sCu S)), vA b1, vA b2, vA b3, vA b4, vA b5, vI ((sMu S)), vA b6, vI ((sRn S)), vA b7, vI ((sSn S)), vI ((sSv S)), vA b8, vI ((sLt S)), vA b9])) (hb1 : h b1 = some (eI 60 gT)) (hb2 : h b2 = some (eI 60 gD)) (hb3 : h b3 = some (eJ 60 gC)) (hb5 : h b5 = some (eJ 18000 gA)) {f T D C : Int} {A : Nat → Int} (hf0 : 0 ≤ f) (hf6 : f < 60) (eT : gT f.toNat = T) (eD : gD f.toNat = D) (eC : gC f.toNat = C) (eA : ∀ t : Int, 0 ≤ t → t < T + D → gA (300 * f + t).toNat = A t.toNat) (ok : CvOk T D C A) : MC G mX10_kindOf d 0 0 [vA m, vI f] h (Ret (vI (kindS T D C A)) h) := by
  obtain ⟨hT0, hT2, hD0, hD6, hC0, hC1, hA, hM, hW⟩ := id ok
  refine MC.of (by decide) (Nat.le_of_ble_eq_true rfl) (fun ok okh => ?_)
  show EX G mX10_kindOf d 0 0 _ 0 [(0, vA m), (1, vI f)] [] h 0 0
  refine x_aload_n 0 dX10_kindOf_0 rfl rfl ?_
  refine x_get 5 dX10_kindOf_1 fl_X10_23 hm rfl ?_
  refine x_sipush dX10_kindOf_4 (okI_c rfl) (by decide +kernel) ?_
  refine x_iload_n 1 dX10_kindOf_7 rfl rfl ?_
  refine x_imul dX10_kindOf_8 (by unfold okI; omega) ?_
  refine x_laload dX10_kindOf_9 hb5 (by omega) (by omega) ?_
  refine x_asJ (y := (A 0)) (by have := eA 0 (by omega) (by omega); rw [Int.add_zero] at this; exact this) ?_
  refine x_nmJ (fun x1 e_x1 => ?_)
  refine x_lstore_n (L' := [(2, vJ x1), (0, vA m), (1, vI f)]) dX10_kindOf_10 rfl (Nat.le_of_ble_eq_true rfl) rfl ?_
  refine x_aload_n 1 dX10_kindOf_11 rfl rfl ?_
  refine x_get 1 dX10_kindOf_12 fl_X10_7 hm rfl ?_
  refine x_iload_n 2 dX10_kindOf_15 rfl rfl ?_
  refine x_iaload dX10_kindOf_16 hb1 (by omega) (by omega) ?_
  refine x_asI (y := T) eT ?_
  refine x_istore (L' := [(4, vI T), (2, vJ x1), (0, vA m), (1, vI f)]) dX10_kindOf_17 (Nat.le_of_ble_eq_true rfl) rfl ?_
  refine x_aload_n 2 dX10_kindOf_19 rfl rfl ?_
  refine x_get 2 dX10_kindOf_20 fl_X10_13 hm rfl ?_
  refine x_iload_n 3 dX10_kindOf_23 rfl rfl ?_
  refine x_iaload dX10_kindOf_24 hb2 (by omega) (by omega) ?_
  refine x_asI (y := D) eD ?_
  refine x_istore (L' := [(5, vI D), (4, vI T), (2, vJ x1), (0, vA m), (1, vI f)]) dX10_kindOf_25 (Nat.le_of_ble_eq_true rfl) rfl ?_
  refine x_aload_n 3 dX10_kindOf_27 rfl rfl ?_
  refine x_get 3 dX10_kindOf_28 fl_X10_16 hm rfl ?_
  refine x_iload_n 4 dX10_kindOf_31 rfl rfl ?_
  refine x_laload dX10_kindOf_32 hb3 (by omega) (by omega) ?_
  refine x_asJ (y := C) eC ?_
  refine x_lstore (L' := [(6, vJ C), (5, vI D), (4, vI T), (2, vJ x1), (0, vA m), (1, vI f)]) dX10_kindOf_33 (Nat.le_of_ble_eq_true rfl) rfl ?_
  refine x_iload 1 dX10_kindOf_35 rfl ?_
  refine x_iconst dX10_kindOf_37 (okI_c rfl) ?_
  refine x_icmp_ne 73 dX10_kindOf_38 (by decide) (fun c_38 => ?_) (fun c_38 => ?_)
  · refine x_iload 1 dX10_kindOf_73 rfl ?_
    refine x_iconst dX10_kindOf_75 (okI_c rfl) ?_
    refine x_icmp_ne 92 dX10_kindOf_76 (by decide) (fun c_76 => ?_) (fun c_76 => ?_)
    · refine x_iload 1 dX10_kindOf_92 rfl ?_
      refine x_iconst dX10_kindOf_94 (okI_c rfl) ?_
      refine x_icmp_ne 130 dX10_kindOf_95 (by decide) (fun c_95 => ?_) (fun c_95 => ?_)
      · refine x_iload 1 dX10_kindOf_130 rfl ?_
        refine x_iconst dX10_kindOf_132 (okI_c rfl) ?_
        refine x_icmp_le 172 dX10_kindOf_133 (by decide) (fun c_133 => ?_) (fun c_133 => ?_)
        · refine x_iconst dX10_kindOf_172 (okI_c rfl) ?_
          exact x_ireturn dX10_kindOf_173 rfl (by decide) (by decide) (retI (by unfold kindS; (repeat' split) <;> omega))
        · refine x_iload 2 dX10_kindOf_136 rfl ?_
          refine x_if_ne 172 dX10_kindOf_138 (by decide) (fun c_138 => ?_) (fun c_138 => ?_)
          · refine x_iconst dX10_kindOf_172 (okI_c rfl) ?_
            exact x_ireturn dX10_kindOf_173 rfl (by decide) (by decide) (retI (by unfold kindS; (repeat' split) <;> omega))
          · refine x_lload 0 dX10_kindOf_141 rfl ?_
            refine x_lconst (x := 0) dX10_kindOf_143 (okJ_c rfl) rfl ?_
            refine x_lc_le 172 dX10_kindOf_144 dX10_kindOf_145 (by decide) (fun c_144 => ?_) (fun c_144 => ?_)
            · refine x_iconst dX10_kindOf_172 (okI_c rfl) ?_
              exact x_ireturn dX10_kindOf_173 rfl (by decide) (by decide) (retI (by unfold kindS; (repeat' split) <;> omega))
            · refine x_aload_n 4 dX10_kindOf_148 rfl rfl ?_
              refine x_get 5 dX10_kindOf_149 fl_X10_23 hm rfl ?_
              refine x_sipush dX10_kindOf_152 (okI_c rfl) (by decide +kernel) ?_
              refine x_iload_n 5 dX10_kindOf_155 rfl rfl ?_
              refine x_imul dX10_kindOf_156 (by unfold okI; omega) ?_
              refine x_iload 1 dX10_kindOf_157 rfl ?_
              refine x_iadd dX10_kindOf_159 (by unfold okI; omega) ?_
              refine x_iconst dX10_kindOf_160 (okI_c rfl) ?_
              refine x_isub dX10_kindOf_161 (by unfold okI; omega) ?_
              refine x_laload dX10_kindOf_162 hb5 (by omega) (by omega) ?_
              refine x_asJ (y := (A (D - 1).toNat)) (by have := eA (D - 1) (by omega) (by omega); rw [show 300 * f + (D - 1) = 300 * f + D - 1 by omega] at this; exact this) ?_
              refine x_lconst (x := 0) dX10_kindOf_163 (okJ_c rfl) rfl ?_
              refine x_lc_ne 172 dX10_kindOf_164 dX10_kindOf_165 (by decide) (fun c_164 => ?_) (fun c_164 => ?_)
              · refine x_iconst dX10_kindOf_172 (okI_c rfl) ?_
                exact x_ireturn dX10_kindOf_173 rfl (by decide) (by decide) (retI (by unfold kindS; (repeat' split) <;> omega))
              · refine x_iconst dX10_kindOf_168 (okI_c rfl) ?_
                refine x_goto 173 dX10_kindOf_169 (by decide) ?_
                exact x_ireturn dX10_kindOf_173 rfl (by decide) (by decide) (retI (by unfold kindS; (repeat' split) <;> omega))
      · refine x_iload 2 dX10_kindOf_98 rfl ?_
        refine x_if_le 130 dX10_kindOf_100 (by decide) (fun c_100 => ?_) (fun c_100 => ?_)
        · refine x_iload 1 dX10_kindOf_130 rfl ?_
          refine x_iconst dX10_kindOf_132 (okI_c rfl) ?_
          refine x_icmp_le 172 dX10_kindOf_133 (by decide) (fun c_133 => ?_) (fun c_133 => ?_)
          · refine x_iconst dX10_kindOf_172 (okI_c rfl) ?_
            exact x_ireturn dX10_kindOf_173 rfl (by decide) (by decide) (retI (by unfold kindS; (repeat' split) <;> omega))
          · refine x_iload 2 dX10_kindOf_136 rfl ?_
            refine x_if_ne 172 dX10_kindOf_138 (by decide) (fun c_138 => ?_) (fun c_138 => ?_)
            · refine x_iconst dX10_kindOf_172 (okI_c rfl) ?_
              exact x_ireturn dX10_kindOf_173 rfl (by decide) (by decide) (retI (by unfold kindS; (repeat' split) <;> omega))
            · refine x_lload 0 dX10_kindOf_141 rfl ?_
              refine x_lconst (x := 0) dX10_kindOf_143 (okJ_c rfl) rfl ?_
              refine x_lc_le 172 dX10_kindOf_144 dX10_kindOf_145 (by decide) (fun c_144 => ?_) (fun c_144 => ?_)
              · refine x_iconst dX10_kindOf_172 (okI_c rfl) ?_
                exact x_ireturn dX10_kindOf_173 rfl (by decide) (by decide) (retI (by unfold kindS; (repeat' split) <;> omega))
              · refine x_aload_n 4 dX10_kindOf_148 rfl rfl ?_
                refine x_get 5 dX10_kindOf_149 fl_X10_23 hm rfl ?_
                refine x_sipush dX10_kindOf_152 (okI_c rfl) (by decide +kernel) ?_
                refine x_iload_n 5 dX10_kindOf_155 rfl rfl ?_
                refine x_imul dX10_kindOf_156 (by unfold okI; omega) ?_
                refine x_iload 1 dX10_kindOf_157 rfl ?_
                refine x_iadd dX10_kindOf_159 (by unfold okI; omega) ?_
                refine x_iconst dX10_kindOf_160 (okI_c rfl) ?_
                refine x_isub dX10_kindOf_161 (by unfold okI; omega) ?_
                refine x_laload dX10_kindOf_162 hb5 (by omega) (by omega) ?_
                refine x_asJ (y := (A (D - 1).toNat)) (by have := eA (D - 1) (by omega) (by omega); rw [show 300 * f + (D - 1) = 300 * f + D - 1 by omega] at this; exact this) ?_
                refine x_lconst (x := 0) dX10_kindOf_163 (okJ_c rfl) rfl ?_
                refine x_lc_ne 172 dX10_kindOf_164 dX10_kindOf_165 (by decide) (fun c_164 => ?_) (fun c_164 => ?_)
                · refine x_iconst dX10_kindOf_172 (okI_c rfl) ?_
                  exact x_ireturn dX10_kindOf_173 rfl (by decide) (by decide) (retI (by unfold kindS; (repeat' split) <;> omega))
                · refine x_iconst dX10_kindOf_168 (okI_c rfl) ?_
                  refine x_goto 173 dX10_kindOf_169 (by decide) ?_
                  exact x_ireturn dX10_kindOf_173 rfl (by decide) (by decide) (retI (by unfold kindS; (repeat' split) <;> omega))
        · refine x_lload 0 dX10_kindOf_103 rfl ?_
          refine x_lconst (x := 0) dX10_kindOf_105 (okJ_c rfl) rfl ?_
          refine x_lc_le 130 dX10_kindOf_106 dX10_kindOf_107 (by decide) (fun c_106 => ?_) (fun c_106 => ?_)
          · refine x_iload 1 dX10_kindOf_130 rfl ?_
            refine x_iconst dX10_kindOf_132 (okI_c rfl) ?_
            refine x_icmp_le 172 dX10_kindOf_133 (by decide) (fun c_133 => ?_) (fun c_133 => ?_)
            · refine x_iconst dX10_kindOf_172 (okI_c rfl) ?_
              exact x_ireturn dX10_kindOf_173 rfl (by decide) (by decide) (retI (by unfold kindS; (repeat' split) <;> omega))
            · refine x_iload 2 dX10_kindOf_136 rfl ?_
              refine x_if_ne 172 dX10_kindOf_138 (by decide) (fun c_138 => ?_) (fun c_138 => ?_)
              · refine x_iconst dX10_kindOf_172 (okI_c rfl) ?_
                exact x_ireturn dX10_kindOf_173 rfl (by decide) (by decide) (retI (by unfold kindS; (repeat' split) <;> omega))
              · refine x_lload 0 dX10_kindOf_141 rfl ?_
                refine x_lconst (x := 0) dX10_kindOf_143 (okJ_c rfl) rfl ?_
                refine x_lc_le 172 dX10_kindOf_144 dX10_kindOf_145 (by decide) (fun c_144 => ?_) (fun c_144 => ?_)
                · refine x_iconst dX10_kindOf_172 (okI_c rfl) ?_
                  exact x_ireturn dX10_kindOf_173 rfl (by decide) (by decide) (retI (by unfold kindS; (repeat' split) <;> omega))
                · refine x_aload_n 4 dX10_kindOf_148 rfl rfl ?_
                  refine x_get 5 dX10_kindOf_149 fl_X10_23 hm rfl ?_
                  refine x_sipush dX10_kindOf_152 (okI_c rfl) (by decide +kernel) ?_
                  refine x_iload_n 5 dX10_kindOf_155 rfl rfl ?_
                  refine x_imul dX10_kindOf_156 (by unfold okI; omega) ?_
                  refine x_iload 1 dX10_kindOf_157 rfl ?_
                  refine x_iadd dX10_kindOf_159 (by unfold okI; omega) ?_
                  refine x_iconst dX10_kindOf_160 (okI_c rfl) ?_
                  refine x_isub dX10_kindOf_161 (by unfold okI; omega) ?_
                  refine x_laload dX10_kindOf_162 hb5 (by omega) (by omega) ?_
                  refine x_asJ (y := (A (D - 1).toNat)) (by have := eA (D - 1) (by omega) (by omega); rw [show 300 * f + (D - 1) = 300 * f + D - 1 by omega] at this; exact this) ?_
                  refine x_lconst (x := 0) dX10_kindOf_163 (okJ_c rfl) rfl ?_
                  refine x_lc_ne 172 dX10_kindOf_164 dX10_kindOf_165 (by decide) (fun c_164 => ?_) (fun c_164 => ?_)
                  · refine x_iconst dX10_kindOf_172 (okI_c rfl) ?_
                    exact x_ireturn dX10_kindOf_173 rfl (by decide) (by decide) (retI (by unfold kindS; (repeat' split) <;> omega))
                  · refine x_iconst dX10_kindOf_168 (okI_c rfl) ?_
                    refine x_goto 173 dX10_kindOf_169 (by decide) ?_
                    exact x_ireturn dX10_kindOf_173 rfl (by decide) (by decide) (retI (by unfold kindS; (repeat' split) <;> omega))
          · refine x_aload_n 4 dX10_kindOf_110 rfl rfl ?_
            refine x_get 5 dX10_kindOf_111 fl_X10_23 hm rfl ?_
            refine x_sipush dX10_kindOf_114 (okI_c rfl) (by decide +kernel) ?_
            refine x_iload_n 5 dX10_kindOf_117 rfl rfl ?_
            refine x_imul dX10_kindOf_118 (by unfold okI; omega) ?_
            refine x_iload 2 dX10_kindOf_119 rfl ?_
            refine x_iadd dX10_kindOf_121 (by unfold okI; omega) ?_
            refine x_laload dX10_kindOf_122 hb5 (by omega) (by omega) ?_
            refine x_asJ (y := (A T.toNat)) (eA T (by omega) (by omega)) ?_
            refine x_lconst (x := 0) dX10_kindOf_123 (okJ_c rfl) rfl ?_
            refine x_lc_ne 130 dX10_kindOf_124 dX10_kindOf_125 (by decide) (fun c_124 => ?_) (fun c_124 => ?_)
            · refine x_iload 1 dX10_kindOf_130 rfl ?_
              refine x_iconst dX10_kindOf_132 (okI_c rfl) ?_
              refine x_icmp_le 172 dX10_kindOf_133 (by decide) (fun c_133 => ?_) (fun c_133 => ?_)
              · refine x_iconst dX10_kindOf_172 (okI_c rfl) ?_
                exact x_ireturn dX10_kindOf_173 rfl (by decide) (by decide) (retI (by unfold kindS; (repeat' split) <;> omega))
              · refine x_iload 2 dX10_kindOf_136 rfl ?_
                refine x_if_ne 172 dX10_kindOf_138 (by decide) (fun c_138 => ?_) (fun c_138 => ?_)
                · refine x_iconst dX10_kindOf_172 (okI_c rfl) ?_
                  exact x_ireturn dX10_kindOf_173 rfl (by decide) (by decide) (retI (by unfold kindS; (repeat' split) <;> omega))
                · refine x_lload 0 dX10_kindOf_141 rfl ?_
                  refine x_lconst (x := 0) dX10_kindOf_143 (okJ_c rfl) rfl ?_
                  refine x_lc_le 172 dX10_kindOf_144 dX10_kindOf_145 (by decide) (fun c_144 => ?_) (fun c_144 => ?_)
                  · refine x_iconst dX10_kindOf_172 (okI_c rfl) ?_
                    exact x_ireturn dX10_kindOf_173 rfl (by decide) (by decide) (retI (by unfold kindS; (repeat' split) <;> omega))
                  · refine x_aload_n 4 dX10_kindOf_148 rfl rfl ?_
                    refine x_get 5 dX10_kindOf_149 fl_X10_23 hm rfl ?_
                    refine x_sipush dX10_kindOf_152 (okI_c rfl) (by decide +kernel) ?_
                    refine x_iload_n 5 dX10_kindOf_155 rfl rfl ?_
                    refine x_imul dX10_kindOf_156 (by unfold okI; omega) ?_
                    refine x_iload 1 dX10_kindOf_157 rfl ?_
                    refine x_iadd dX10_kindOf_159 (by unfold okI; omega) ?_
                    refine x_iconst dX10_kindOf_160 (okI_c rfl) ?_
                    refine x_isub dX10_kindOf_161 (by unfold okI; omega) ?_
                    refine x_laload dX10_kindOf_162 hb5 (by omega) (by omega) ?_
                    refine x_asJ (y := (A (D - 1).toNat)) (by have := eA (D - 1) (by omega) (by omega); rw [show 300 * f + (D - 1) = 300 * f + D - 1 by omega] at this; exact this) ?_
                    refine x_lconst (x := 0) dX10_kindOf_163 (okJ_c rfl) rfl ?_
                    refine x_lc_ne 172 dX10_kindOf_164 dX10_kindOf_165 (by decide) (fun c_164 => ?_) (fun c_164 => ?_)
                    · refine x_iconst dX10_kindOf_172 (okI_c rfl) ?_
                      exact x_ireturn dX10_kindOf_173 rfl (by decide) (by decide) (retI (by unfold kindS; (repeat' split) <;> omega))
                    · refine x_iconst dX10_kindOf_168 (okI_c rfl) ?_
                      refine x_goto 173 dX10_kindOf_169 (by decide) ?_
                      exact x_ireturn dX10_kindOf_173 rfl (by decide) (by decide) (retI (by unfold kindS; (repeat' split) <;> omega))
            · refine x_iconst dX10_kindOf_128 (okI_c rfl) ?_
              exact x_ireturn dX10_kindOf_129 rfl (by decide) (by decide) (retI (by unfold kindS; (repeat' split) <;> omega))
    · refine x_iload 2 dX10_kindOf_79 rfl ?_
      refine x_if_ne 92 dX10_kindOf_81 (by decide) (fun c_81 => ?_) (fun c_81 => ?_)
      · refine x_iload 1 dX10_kindOf_92 rfl ?_
        refine x_iconst dX10_kindOf_94 (okI_c rfl) ?_
        refine x_icmp_ne 130 dX10_kindOf_95 (by decide) (fun c_95 => ?_) (fun c_95 => ?_)
        · refine x_iload 1 dX10_kindOf_130 rfl ?_
          refine x_iconst dX10_kindOf_132 (okI_c rfl) ?_
          refine x_icmp_le 172 dX10_kindOf_133 (by decide) (fun c_133 => ?_) (fun c_133 => ?_)
          · refine x_iconst dX10_kindOf_172 (okI_c rfl) ?_
            exact x_ireturn dX10_kindOf_173 rfl (by decide) (by decide) (retI (by unfold kindS; (repeat' split) <;> omega))
          · refine x_iload 2 dX10_kindOf_136 rfl ?_
            refine x_if_ne 172 dX10_kindOf_138 (by decide) (fun c_138 => ?_) (fun c_138 => ?_)
            · refine x_iconst dX10_kindOf_172 (okI_c rfl) ?_
              exact x_ireturn dX10_kindOf_173 rfl (by decide) (by decide) (retI (by unfold kindS; (repeat' split) <;> omega))
            · refine x_lload 0 dX10_kindOf_141 rfl ?_
              refine x_lconst (x := 0) dX10_kindOf_143 (okJ_c rfl) rfl ?_
              refine x_lc_le 172 dX10_kindOf_144 dX10_kindOf_145 (by decide) (fun c_144 => ?_) (fun c_144 => ?_)
              · refine x_iconst dX10_kindOf_172 (okI_c rfl) ?_
                exact x_ireturn dX10_kindOf_173 rfl (by decide) (by decide) (retI (by unfold kindS; (repeat' split) <;> omega))
              · refine x_aload_n 4 dX10_kindOf_148 rfl rfl ?_
                refine x_get 5 dX10_kindOf_149 fl_X10_23 hm rfl ?_
                refine x_sipush dX10_kindOf_152 (okI_c rfl) (by decide +kernel) ?_
                refine x_iload_n 5 dX10_kindOf_155 rfl rfl ?_
                refine x_imul dX10_kindOf_156 (by unfold okI; omega) ?_
                refine x_iload 1 dX10_kindOf_157 rfl ?_
                refine x_iadd dX10_kindOf_159 (by unfold okI; omega) ?_
                refine x_iconst dX10_kindOf_160 (okI_c rfl) ?_
                refine x_isub dX10_kindOf_161 (by unfold okI; omega) ?_
                refine x_laload dX10_kindOf_162 hb5 (by omega) (by omega) ?_
                refine x_asJ (y := (A (D - 1).toNat)) (by have := eA (D - 1) (by omega) (by omega); rw [show 300 * f + (D - 1) = 300 * f + D - 1 by omega] at this; exact this) ?_
                refine x_lconst (x := 0) dX10_kindOf_163 (okJ_c rfl) rfl ?_
                refine x_lc_ne 172 dX10_kindOf_164 dX10_kindOf_165 (by decide) (fun c_164 => ?_) (fun c_164 => ?_)
                · refine x_iconst dX10_kindOf_172 (okI_c rfl) ?_
                  exact x_ireturn dX10_kindOf_173 rfl (by decide) (by decide) (retI (by unfold kindS; (repeat' split) <;> omega))
                · refine x_iconst dX10_kindOf_168 (okI_c rfl) ?_
                  refine x_goto 173 dX10_kindOf_169 (by decide) ?_
                  exact x_ireturn dX10_kindOf_173 rfl (by decide) (by decide) (retI (by unfold kindS; (repeat' split) <;> omega))
        · refine x_iload 2 dX10_kindOf_98 rfl ?_
          refine x_if_le 130 dX10_kindOf_100 (by decide) (fun c_100 => ?_) (fun c_100 => ?_)
          · refine x_iload 1 dX10_kindOf_130 rfl ?_
            refine x_iconst dX10_kindOf_132 (okI_c rfl) ?_
            refine x_icmp_le 172 dX10_kindOf_133 (by decide) (fun c_133 => ?_) (fun c_133 => ?_)
            · refine x_iconst dX10_kindOf_172 (okI_c rfl) ?_
              exact x_ireturn dX10_kindOf_173 rfl (by decide) (by decide) (retI (by unfold kindS; (repeat' split) <;> omega))
            · refine x_iload 2 dX10_kindOf_136 rfl ?_
              refine x_if_ne 172 dX10_kindOf_138 (by decide) (fun c_138 => ?_) (fun c_138 => ?_)
              · refine x_iconst dX10_kindOf_172 (okI_c rfl) ?_
                exact x_ireturn dX10_kindOf_173 rfl (by decide) (by decide) (retI (by unfold kindS; (repeat' split) <;> omega))
              · refine x_lload 0 dX10_kindOf_141 rfl ?_
                refine x_lconst (x := 0) dX10_kindOf_143 (okJ_c rfl) rfl ?_
                refine x_lc_le 172 dX10_kindOf_144 dX10_kindOf_145 (by decide) (fun c_144 => ?_) (fun c_144 => ?_)
                · refine x_iconst dX10_kindOf_172 (okI_c rfl) ?_
                  exact x_ireturn dX10_kindOf_173 rfl (by decide) (by decide) (retI (by unfold kindS; (repeat' split) <;> omega))
                · refine x_aload_n 4 dX10_kindOf_148 rfl rfl ?_
                  refine x_get 5 dX10_kindOf_149 fl_X10_23 hm rfl ?_
                  refine x_sipush dX10_kindOf_152 (okI_c rfl) (by decide +kernel) ?_
                  refine x_iload_n 5 dX10_kindOf_155 rfl rfl ?_
                  refine x_imul dX10_kindOf_156 (by unfold okI; omega) ?_
                  refine x_iload 1 dX10_kindOf_157 rfl ?_
                  refine x_iadd dX10_kindOf_159 (by unfold okI; omega) ?_
                  refine x_iconst dX10_kindOf_160 (okI_c rfl) ?_
                  refine x_isub dX10_kindOf_161 (by unfold okI; omega) ?_
                  refine x_laload dX10_kindOf_162 hb5 (by omega) (by omega) ?_
                  refine x_asJ (y := (A (D - 1).toNat)) (by have := eA (D - 1) (by omega) (by omega); rw [show 300 * f + (D - 1) = 300 * f + D - 1 by omega] at this; exact this) ?_
                  refine x_lconst (x := 0) dX10_kindOf_163 (okJ_c rfl) rfl ?_
                  refine x_lc_ne 172 dX10_kindOf_164 dX10_kindOf_165 (by decide) (fun c_164 => ?_) (fun c_164 => ?_)
                  · refine x_iconst dX10_kindOf_172 (okI_c rfl) ?_
                    exact x_ireturn dX10_kindOf_173 rfl (by decide) (by decide) (retI (by unfold kindS; (repeat' split) <;> omega))
                  · refine x_iconst dX10_kindOf_168 (okI_c rfl) ?_
                    refine x_goto 173 dX10_kindOf_169 (by decide) ?_
                    exact x_ireturn dX10_kindOf_173 rfl (by decide) (by decide) (retI (by unfold kindS; (repeat' split) <;> omega))
          · refine x_lload 0 dX10_kindOf_103 rfl ?_
            refine x_lconst (x := 0) dX10_kindOf_105 (okJ_c rfl) rfl ?_
            refine x_lc_le 130 dX10_kindOf_106 dX10_kindOf_107 (by decide) (fun c_106 => ?_) (fun c_106 => ?_)
            · refine x_iload 1 dX10_kindOf_130 rfl ?_
              refine x_iconst dX10_kindOf_132 (okI_c rfl) ?_
              refine x_icmp_le 172 dX10_kindOf_133 (by decide) (fun c_133 => ?_) (fun c_133 => ?_)
              · refine x_iconst dX10_kindOf_172 (okI_c rfl) ?_
                exact x_ireturn dX10_kindOf_173 rfl (by decide) (by decide) (retI (by unfold kindS; (repeat' split) <;> omega))
              · refine x_iload 2 dX10_kindOf_136 rfl ?_
                refine x_if_ne 172 dX10_kindOf_138 (by decide) (fun c_138 => ?_) (fun c_138 => ?_)
                · refine x_iconst dX10_kindOf_172 (okI_c rfl) ?_
                  exact x_ireturn dX10_kindOf_173 rfl (by decide) (by decide) (retI (by unfold kindS; (repeat' split) <;> omega))
                · refine x_lload 0 dX10_kindOf_141 rfl ?_
                  refine x_lconst (x := 0) dX10_kindOf_143 (okJ_c rfl) rfl ?_
                  refine x_lc_le 172 dX10_kindOf_144 dX10_kindOf_145 (by decide) (fun c_144 => ?_) (fun c_144 => ?_)
                  · refine x_iconst dX10_kindOf_172 (okI_c rfl) ?_
                    exact x_ireturn dX10_kindOf_173 rfl (by decide) (by decide) (retI (by unfold kindS; (repeat' split) <;> omega))
                  · refine x_aload_n 4 dX10_kindOf_148 rfl rfl ?_
                    refine x_get 5 dX10_kindOf_149 fl_X10_23 hm rfl ?_
                    refine x_sipush dX10_kindOf_152 (okI_c rfl) (by decide +kernel) ?_
                    refine x_iload_n 5 dX10_kindOf_155 rfl rfl ?_
                    refine x_imul dX10_kindOf_156 (by unfold okI; omega) ?_
                    refine x_iload 1 dX10_kindOf_157 rfl ?_
                    refine x_iadd dX10_kindOf_159 (by unfold okI; omega) ?_
                    refine x_iconst dX10_kindOf_160 (okI_c rfl) ?_
                    refine x_isub dX10_kindOf_161 (by unfold okI; omega) ?_
                    refine x_laload dX10_kindOf_162 hb5 (by omega) (by omega) ?_
                    refine x_asJ (y := (A (D - 1).toNat)) (by have := eA (D - 1) (by omega) (by omega); rw [show 300 * f + (D - 1) = 300 * f + D - 1 by omega] at this; exact this) ?_
                    refine x_lconst (x := 0) dX10_kindOf_163 (okJ_c rfl) rfl ?_
                    refine x_lc_ne 172 dX10_kindOf_164 dX10_kindOf_165 (by decide) (fun c_164 => ?_) (fun c_164 => ?_)
                    · refine x_iconst dX10_kindOf_172 (okI_c rfl) ?_
                      exact x_ireturn dX10_kindOf_173 rfl (by decide) (by decide) (retI (by unfold kindS; (repeat' split) <;> omega))
                    · refine x_iconst dX10_kindOf_168 (okI_c rfl) ?_
                      refine x_goto 173 dX10_kindOf_169 (by decide) ?_
                      exact x_ireturn dX10_kindOf_173 rfl (by decide) (by decide) (retI (by unfold kindS; (repeat' split) <;> omega))
            · refine x_aload_n 4 dX10_kindOf_110 rfl rfl ?_
              refine x_get 5 dX10_kindOf_111 fl_X10_23 hm rfl ?_
              refine x_sipush dX10_kindOf_114 (okI_c rfl) (by decide +kernel) ?_
              refine x_iload_n 5 dX10_kindOf_117 rfl rfl ?_
              refine x_imul dX10_kindOf_118 (by unfold okI; omega) ?_
              refine x_iload 2 dX10_kindOf_119 rfl ?_
              refine x_iadd dX10_kindOf_121 (by unfold okI; omega) ?_
              refine x_laload dX10_kindOf_122 hb5 (by omega) (by omega) ?_
              refine x_asJ (y := (A T.toNat)) (eA T (by omega) (by omega)) ?_
              refine x_lconst (x := 0) dX10_kindOf_123 (okJ_c rfl) rfl ?_
              refine x_lc_ne 130 dX10_kindOf_124 dX10_kindOf_125 (by decide) (fun c_124 => ?_) (fun c_124 => ?_)
              · refine x_iload 1 dX10_kindOf_130 rfl ?_
                refine x_iconst dX10_kindOf_132 (okI_c rfl) ?_
                refine x_icmp_le 172 dX10_kindOf_133 (by decide) (fun c_133 => ?_) (fun c_133 => ?_)
                · refine x_iconst dX10_kindOf_172 (okI_c rfl) ?_
                  exact x_ireturn dX10_kindOf_173 rfl (by decide) (by decide) (retI (by unfold kindS; (repeat' split) <;> omega))
                · refine x_iload 2 dX10_kindOf_136 rfl ?_
                  refine x_if_ne 172 dX10_kindOf_138 (by decide) (fun c_138 => ?_) (fun c_138 => ?_)
                  · refine x_iconst dX10_kindOf_172 (okI_c rfl) ?_
                    exact x_ireturn dX10_kindOf_173 rfl (by decide) (by decide) (retI (by unfold kindS; (repeat' split) <;> omega))
                  · refine x_lload 0 dX10_kindOf_141 rfl ?_
                    refine x_lconst (x := 0) dX10_kindOf_143 (okJ_c rfl) rfl ?_
                    refine x_lc_le 172 dX10_kindOf_144 dX10_kindOf_145 (by decide) (fun c_144 => ?_) (fun c_144 => ?_)
                    · refine x_iconst dX10_kindOf_172 (okI_c rfl) ?_
                      exact x_ireturn dX10_kindOf_173 rfl (by decide) (by decide) (retI (by unfold kindS; (repeat' split) <;> omega))
                    · refine x_aload_n 4 dX10_kindOf_148 rfl rfl ?_
                      refine x_get 5 dX10_kindOf_149 fl_X10_23 hm rfl ?_
                      refine x_sipush dX10_kindOf_152 (okI_c rfl) (by decide +kernel) ?_
                      refine x_iload_n 5 dX10_kindOf_155 rfl rfl ?_
                      refine x_imul dX10_kindOf_156 (by unfold okI; omega) ?_
                      refine x_iload 1 dX10_kindOf_157 rfl ?_
                      refine x_iadd dX10_kindOf_159 (by unfold okI; omega) ?_
                      refine x_iconst dX10_kindOf_160 (okI_c rfl) ?_
                      refine x_isub dX10_kindOf_161 (by unfold okI; omega) ?_
                      refine x_laload dX10_kindOf_162 hb5 (by omega) (by omega) ?_
                      refine x_asJ (y := (A (D - 1).toNat)) (by have := eA (D - 1) (by omega) (by omega); rw [show 300 * f + (D - 1) = 300 * f + D - 1 by omega] at this; exact this) ?_
                      refine x_lconst (x := 0) dX10_kindOf_163 (okJ_c rfl) rfl ?_
                      refine x_lc_ne 172 dX10_kindOf_164 dX10_kindOf_165 (by decide) (fun c_164 => ?_) (fun c_164 => ?_)
                      · refine x_iconst dX10_kindOf_172 (okI_c rfl) ?_
                        exact x_ireturn dX10_kindOf_173 rfl (by decide) (by decide) (retI (by unfold kindS; (repeat' split) <;> omega))
                      · refine x_iconst dX10_kindOf_168 (okI_c rfl) ?_
                        refine x_goto 173 dX10_kindOf_169 (by decide) ?_
                        exact x_ireturn dX10_kindOf_173 rfl (by decide) (by decide) (retI (by unfold kindS; (repeat' split) <;> omega))
              · refine x_iconst dX10_kindOf_128 (okI_c rfl) ?_
                exact x_ireturn dX10_kindOf_129 rfl (by decide) (by decide) (retI (by unfold kindS; (repeat' split) <;> omega))
      · refine x_lload_n 3 dX10_kindOf_84 rfl rfl ?_
        refine x_lconst (x := 0) dX10_kindOf_85 (okJ_c rfl) rfl ?_
        refine x_lc_ne 92 dX10_kindOf_86 dX10_kindOf_87 (by decide) (fun c_86 => ?_) (fun c_86 => ?_)
        · refine x_iload 1 dX10_kindOf_92 rfl ?_
          refine x_iconst dX10_kindOf_94 (okI_c rfl) ?_
          refine x_icmp_ne 130 dX10_kindOf_95 (by decide) (fun c_95 => ?_) (fun c_95 => ?_)
          · refine x_iload 1 dX10_kindOf_130 rfl ?_
            refine x_iconst dX10_kindOf_132 (okI_c rfl) ?_
            refine x_icmp_le 172 dX10_kindOf_133 (by decide) (fun c_133 => ?_) (fun c_133 => ?_)
            · refine x_iconst dX10_kindOf_172 (okI_c rfl) ?_
              exact x_ireturn dX10_kindOf_173 rfl (by decide) (by decide) (retI (by unfold kindS; (repeat' split) <;> omega))
            · refine x_iload 2 dX10_kindOf_136 rfl ?_
              refine x_if_ne 172 dX10_kindOf_138 (by decide) (fun c_138 => ?_) (fun c_138 => ?_)
              · refine x_iconst dX10_kindOf_172 (okI_c rfl) ?_
                exact x_ireturn dX10_kindOf_173 rfl (by decide) (by decide) (retI (by unfold kindS; (repeat' split) <;> omega))
              · refine x_lload 0 dX10_kindOf_141 rfl ?_
                refine x_lconst (x := 0) dX10_kindOf_143 (okJ_c rfl) rfl ?_
                refine x_lc_le 172 dX10_kindOf_144 dX10_kindOf_145 (by decide) (fun c_144 => ?_) (fun c_144 => ?_)
                · refine x_iconst dX10_kindOf_172 (okI_c rfl) ?_
                  exact x_ireturn dX10_kindOf_173 rfl (by decide) (by decide) (retI (by unfold kindS; (repeat' split) <;> omega))
                · refine x_aload_n 4 dX10_kindOf_148 rfl rfl ?_
                  refine x_get 5 dX10_kindOf_149 fl_X10_23 hm rfl ?_
                  refine x_sipush dX10_kindOf_152 (okI_c rfl) (by decide +kernel) ?_
                  refine x_iload_n 5 dX10_kindOf_155 rfl rfl ?_
                  refine x_imul dX10_kindOf_156 (by unfold okI; omega) ?_
                  refine x_iload 1 dX10_kindOf_157 rfl ?_
                  refine x_iadd dX10_kindOf_159 (by unfold okI; omega) ?_
                  refine x_iconst dX10_kindOf_160 (okI_c rfl) ?_
                  refine x_isub dX10_kindOf_161 (by unfold okI; omega) ?_
                  refine x_laload dX10_kindOf_162 hb5 (by omega) (by omega) ?_
                  refine x_asJ (y := (A (D - 1).toNat)) (by have := eA (D - 1) (by omega) (by omega); rw [show 300 * f + (D - 1) = 300 * f + D - 1 by omega] at this; exact this) ?_
                  refine x_lconst (x := 0) dX10_kindOf_163 (okJ_c rfl) rfl ?_
                  refine x_lc_ne 172 dX10_kindOf_164 dX10_kindOf_165 (by decide) (fun c_164 => ?_) (fun c_164 => ?_)
                  · refine x_iconst dX10_kindOf_172 (okI_c rfl) ?_
                    exact x_ireturn dX10_kindOf_173 rfl (by decide) (by decide) (retI (by unfold kindS; (repeat' split) <;> omega))
                  · refine x_iconst dX10_kindOf_168 (okI_c rfl) ?_
                    refine x_goto 173 dX10_kindOf_169 (by decide) ?_
                    exact x_ireturn dX10_kindOf_173 rfl (by decide) (by decide) (retI (by unfold kindS; (repeat' split) <;> omega))
          · refine x_iload 2 dX10_kindOf_98 rfl ?_
            refine x_if_le 130 dX10_kindOf_100 (by decide) (fun c_100 => ?_) (fun c_100 => ?_)
            · refine x_iload 1 dX10_kindOf_130 rfl ?_
              refine x_iconst dX10_kindOf_132 (okI_c rfl) ?_
              refine x_icmp_le 172 dX10_kindOf_133 (by decide) (fun c_133 => ?_) (fun c_133 => ?_)
              · refine x_iconst dX10_kindOf_172 (okI_c rfl) ?_
                exact x_ireturn dX10_kindOf_173 rfl (by decide) (by decide) (retI (by unfold kindS; (repeat' split) <;> omega))
              · refine x_iload 2 dX10_kindOf_136 rfl ?_
                refine x_if_ne 172 dX10_kindOf_138 (by decide) (fun c_138 => ?_) (fun c_138 => ?_)
                · refine x_iconst dX10_kindOf_172 (okI_c rfl) ?_
                  exact x_ireturn dX10_kindOf_173 rfl (by decide) (by decide) (retI (by unfold kindS; (repeat' split) <;> omega))
                · refine x_lload 0 dX10_kindOf_141 rfl ?_
                  refine x_lconst (x := 0) dX10_kindOf_143 (okJ_c rfl) rfl ?_
                  refine x_lc_le 172 dX10_kindOf_144 dX10_kindOf_145 (by decide) (fun c_144 => ?_) (fun c_144 => ?_)
                  · refine x_iconst dX10_kindOf_172 (okI_c rfl) ?_
                    exact x_ireturn dX10_kindOf_173 rfl (by decide) (by decide) (retI (by unfold kindS; (repeat' split) <;> omega))
                  · refine x_aload_n 4 dX10_kindOf_148 rfl rfl ?_
                    refine x_get 5 dX10_kindOf_149 fl_X10_23 hm rfl ?_
                    refine x_sipush dX10_kindOf_152 (okI_c rfl) (by decide +kernel) ?_
                    refine x_iload_n 5 dX10_kindOf_155 rfl rfl ?_
                    refine x_imul dX10_kindOf_156 (by unfold okI; omega) ?_
                    refine x_iload 1 dX10_kindOf_157 rfl ?_
                    refine x_iadd dX10_kindOf_159 (by unfold okI; omega) ?_
                    refine x_iconst dX10_kindOf_160 (okI_c rfl) ?_
                    refine x_isub dX10_kindOf_161 (by unfold okI; omega) ?_
                    refine x_laload dX10_kindOf_162 hb5 (by omega) (by omega) ?_
                    refine x_asJ (y := (A (D - 1).toNat)) (by have := eA (D - 1) (by omega) (by omega); rw [show 300 * f + (D - 1) = 300 * f + D - 1 by omega] at this; exact this) ?_
                    refine x_lconst (x := 0) dX10_kindOf_163 (okJ_c rfl) rfl ?_
                    refine x_lc_ne 172 dX10_kindOf_164 dX10_kindOf_165 (by decide) (fun c_164 => ?_) (fun c_164 => ?_)
                    · refine x_iconst dX10_kindOf_172 (okI_c rfl) ?_
                      exact x_ireturn dX10_kindOf_173 rfl (by decide) (by decide) (retI (by unfold kindS; (repeat' split) <;> omega))
                    · refine x_iconst dX10_kindOf_168 (okI_c rfl) ?_
                      refine x_goto 173 dX10_kindOf_169 (by decide) ?_
                      exact x_ireturn dX10_kindOf_173 rfl (by decide) (by decide) (retI (by unfold kindS; (repeat' split) <;> omega))
            · refine x_lload 0 dX10_kindOf_103 rfl ?_
              refine x_lconst (x := 0) dX10_kindOf_105 (okJ_c rfl) rfl ?_
              refine x_lc_le 130 dX10_kindOf_106 dX10_kindOf_107 (by decide) (fun c_106 => ?_) (fun c_106 => ?_)
              · refine x_iload 1 dX10_kindOf_130 rfl ?_
                refine x_iconst dX10_kindOf_132 (okI_c rfl) ?_
                refine x_icmp_le 172 dX10_kindOf_133 (by decide) (fun c_133 => ?_) (fun c_133 => ?_)
                · refine x_iconst dX10_kindOf_172 (okI_c rfl) ?_
                  exact x_ireturn dX10_kindOf_173 rfl (by decide) (by decide) (retI (by unfold kindS; (repeat' split) <;> omega))
                · refine x_iload 2 dX10_kindOf_136 rfl ?_
                  refine x_if_ne 172 dX10_kindOf_138 (by decide) (fun c_138 => ?_) (fun c_138 => ?_)
                  · refine x_iconst dX10_kindOf_172 (okI_c rfl) ?_
                    exact x_ireturn dX10_kindOf_173 rfl (by decide) (by decide) (retI (by unfold kindS; (repeat' split) <;> omega))
                  · refine x_lload 0 dX10_kindOf_141 rfl ?_
                    refine x_lconst (x := 0) dX10_kindOf_143 (okJ_c rfl) rfl ?_
                    refine x_lc_le 172 dX10_kindOf_144 dX10_kindOf_145 (by decide) (fun c_144 => ?_) (fun c_144 => ?_)
                    · refine x_iconst dX10_kindOf_172 (okI_c rfl) ?_
                      exact x_ireturn dX10_kindOf_173 rfl (by decide) (by decide) (retI (by unfold kindS; (repeat' split) <;> omega))
                    · refine x_aload_n 4 dX10_kindOf_148 rfl rfl ?_
                      refine x_get 5 dX10_kindOf_149 fl_X10_23 hm rfl ?_
                      refine x_sipush dX10_kindOf_152 (okI_c rfl) (by decide +kernel) ?_
                      refine x_iload_n 5 dX10_kindOf_155 rfl rfl ?_
                      refine x_imul dX10_kindOf_156 (by unfold okI; omega) ?_
                      refine x_iload 1 dX10_kindOf_157 rfl ?_
                      refine x_iadd dX10_kindOf_159 (by unfold okI; omega) ?_
                      refine x_iconst dX10_kindOf_160 (okI_c rfl) ?_
                      refine x_isub dX10_kindOf_161 (by unfold okI; omega) ?_
                      refine x_laload dX10_kindOf_162 hb5 (by omega) (by omega) ?_
                      refine x_asJ (y := (A (D - 1).toNat)) (by have := eA (D - 1) (by omega) (by omega); rw [show 300 * f + (D - 1) = 300 * f + D - 1 by omega] at this; exact this) ?_
                      refine x_lconst (x := 0) dX10_kindOf_163 (okJ_c rfl) rfl ?_
                      refine x_lc_ne 172 dX10_kindOf_164 dX10_kindOf_165 (by decide) (fun c_164 => ?_) (fun c_164 => ?_)
                      · refine x_iconst dX10_kindOf_172 (okI_c rfl) ?_
                        exact x_ireturn dX10_kindOf_173 rfl (by decide) (by decide) (retI (by unfold kindS; (repeat' split) <;> omega))
                      · refine x_iconst dX10_kindOf_168 (okI_c rfl) ?_
                        refine x_goto 173 dX10_kindOf_169 (by decide) ?_
                        exact x_ireturn dX10_kindOf_173 rfl (by decide) (by decide) (retI (by unfold kindS; (repeat' split) <;> omega))
              · refine x_aload_n 4 dX10_kindOf_110 rfl rfl ?_
                refine x_get 5 dX10_kindOf_111 fl_X10_23 hm rfl ?_
                refine x_sipush dX10_kindOf_114 (okI_c rfl) (by decide +kernel) ?_
                refine x_iload_n 5 dX10_kindOf_117 rfl rfl ?_
                refine x_imul dX10_kindOf_118 (by unfold okI; omega) ?_
                refine x_iload 2 dX10_kindOf_119 rfl ?_
                refine x_iadd dX10_kindOf_121 (by unfold okI; omega) ?_
                refine x_laload dX10_kindOf_122 hb5 (by omega) (by omega) ?_
                refine x_asJ (y := (A T.toNat)) (eA T (by omega) (by omega)) ?_
                refine x_lconst (x := 0) dX10_kindOf_123 (okJ_c rfl) rfl ?_
                refine x_lc_ne 130 dX10_kindOf_124 dX10_kindOf_125 (by decide) (fun c_124 => ?_) (fun c_124 => ?_)
                · refine x_iload 1 dX10_kindOf_130 rfl ?_
                  refine x_iconst dX10_kindOf_132 (okI_c rfl) ?_
                  refine x_icmp_le 172 dX10_kindOf_133 (by decide) (fun c_133 => ?_) (fun c_133 => ?_)
                  · refine x_iconst dX10_kindOf_172 (okI_c rfl) ?_
                    exact x_ireturn dX10_kindOf_173 rfl (by decide) (by decide) (retI (by unfold kindS; (repeat' split) <;> omega))
                  · refine x_iload 2 dX10_kindOf_136 rfl ?_
                    refine x_if_ne 172 dX10_kindOf_138 (by decide) (fun c_138 => ?_) (fun c_138 => ?_)
                    · refine x_iconst dX10_kindOf_172 (okI_c rfl) ?_
                      exact x_ireturn dX10_kindOf_173 rfl (by decide) (by decide) (retI (by unfold kindS; (repeat' split) <;> omega))
                    · refine x_lload 0 dX10_kindOf_141 rfl ?_
                      refine x_lconst (x := 0) dX10_kindOf_143 (okJ_c rfl) rfl ?_
                      refine x_lc_le 172 dX10_kindOf_144 dX10_kindOf_145 (by decide) (fun c_144 => ?_) (fun c_144 => ?_)
                      · refine x_iconst dX10_kindOf_172 (okI_c rfl) ?_
                        exact x_ireturn dX10_kindOf_173 rfl (by decide) (by decide) (retI (by unfold kindS; (repeat' split) <;> omega))
                      · refine x_aload_n 4 dX10_kindOf_148 rfl rfl ?_
                        refine x_get 5 dX10_kindOf_149 fl_X10_23 hm rfl ?_
                        refine x_sipush dX10_kindOf_152 (okI_c rfl) (by decide +kernel) ?_
                        refine x_iload_n 5 dX10_kindOf_155 rfl rfl ?_
                        refine x_imul dX10_kindOf_156 (by unfold okI; omega) ?_
                        refine x_iload 1 dX10_kindOf_157 rfl ?_
                        refine x_iadd dX10_kindOf_159 (by unfold okI; omega) ?_
                        refine x_iconst dX10_kindOf_160 (okI_c rfl) ?_
                        refine x_isub dX10_kindOf_161 (by unfold okI; omega) ?_
                        refine x_laload dX10_kindOf_162 hb5 (by omega) (by omega) ?_
                        refine x_asJ (y := (A (D - 1).toNat)) (by have := eA (D - 1) (by omega) (by omega); rw [show 300 * f + (D - 1) = 300 * f + D - 1 by omega] at this; exact this) ?_
                        refine x_lconst (x := 0) dX10_kindOf_163 (okJ_c rfl) rfl ?_
                        refine x_lc_ne 172 dX10_kindOf_164 dX10_kindOf_165 (by decide) (fun c_164 => ?_) (fun c_164 => ?_)
                        · refine x_iconst dX10_kindOf_172 (okI_c rfl) ?_
                          exact x_ireturn dX10_kindOf_173 rfl (by decide) (by decide) (retI (by unfold kindS; (repeat' split) <;> omega))
                        · refine x_iconst dX10_kindOf_168 (okI_c rfl) ?_
                          refine x_goto 173 dX10_kindOf_169 (by decide) ?_
                          exact x_ireturn dX10_kindOf_173 rfl (by decide) (by decide) (retI (by unfold kindS; (repeat' split) <;> omega))
                · refine x_iconst dX10_kindOf_128 (okI_c rfl) ?_
                  exact x_ireturn dX10_kindOf_129 rfl (by decide) (by decide) (retI (by unfold kindS; (repeat' split) <;> omega))
        · refine x_iconst dX10_kindOf_90 (okI_c rfl) ?_
          exact x_ireturn dX10_kindOf_91 rfl (by decide) (by decide) (retI (by unfold kindS; (repeat' split) <;> omega))
  · refine x_iload 2 dX10_kindOf_41 rfl ?_
    refine x_iconst dX10_kindOf_43 (okI_c rfl) ?_
    refine x_icmp_ne 73 dX10_kindOf_44 (by decide) (fun c_44 => ?_) (fun c_44 => ?_)
    · refine x_iload 1 dX10_kindOf_73 rfl ?_
      refine x_iconst dX10_kindOf_75 (okI_c rfl) ?_
      refine x_icmp_ne 92 dX10_kindOf_76 (by decide) (fun c_76 => ?_) (fun c_76 => ?_)
      · refine x_iload 1 dX10_kindOf_92 rfl ?_
        refine x_iconst dX10_kindOf_94 (okI_c rfl) ?_
        refine x_icmp_ne 130 dX10_kindOf_95 (by decide) (fun c_95 => ?_) (fun c_95 => ?_)
        · refine x_iload 1 dX10_kindOf_130 rfl ?_
          refine x_iconst dX10_kindOf_132 (okI_c rfl) ?_
          refine x_icmp_le 172 dX10_kindOf_133 (by decide) (fun c_133 => ?_) (fun c_133 => ?_)
          · refine x_iconst dX10_kindOf_172 (okI_c rfl) ?_
            exact x_ireturn dX10_kindOf_173 rfl (by decide) (by decide) (retI (by unfold kindS; (repeat' split) <;> omega))
          · refine x_iload 2 dX10_kindOf_136 rfl ?_
            refine x_if_ne 172 dX10_kindOf_138 (by decide) (fun c_138 => ?_) (fun c_138 => ?_)
            · refine x_iconst dX10_kindOf_172 (okI_c rfl) ?_
              exact x_ireturn dX10_kindOf_173 rfl (by decide) (by decide) (retI (by unfold kindS; (repeat' split) <;> omega))
            · refine x_lload 0 dX10_kindOf_141 rfl ?_
              refine x_lconst (x := 0) dX10_kindOf_143 (okJ_c rfl) rfl ?_
              refine x_lc_le 172 dX10_kindOf_144 dX10_kindOf_145 (by decide) (fun c_144 => ?_) (fun c_144 => ?_)
              · refine x_iconst dX10_kindOf_172 (okI_c rfl) ?_
                exact x_ireturn dX10_kindOf_173 rfl (by decide) (by decide) (retI (by unfold kindS; (repeat' split) <;> omega))
              · refine x_aload_n 4 dX10_kindOf_148 rfl rfl ?_
                refine x_get 5 dX10_kindOf_149 fl_X10_23 hm rfl ?_
                refine x_sipush dX10_kindOf_152 (okI_c rfl) (by decide +kernel) ?_
                refine x_iload_n 5 dX10_kindOf_155 rfl rfl ?_
                refine x_imul dX10_kindOf_156 (by unfold okI; omega) ?_
                refine x_iload 1 dX10_kindOf_157 rfl ?_
                refine x_iadd dX10_kindOf_159 (by unfold okI; omega) ?_
                refine x_iconst dX10_kindOf_160 (okI_c rfl) ?_
                refine x_isub dX10_kindOf_161 (by unfold okI; omega) ?_
                refine x_laload dX10_kindOf_162 hb5 (by omega) (by omega) ?_
                refine x_asJ (y := (A (D - 1).toNat)) (by have := eA (D - 1) (by omega) (by omega); rw [show 300 * f + (D - 1) = 300 * f + D - 1 by omega] at this; exact this) ?_
                refine x_lconst (x := 0) dX10_kindOf_163 (okJ_c rfl) rfl ?_
                refine x_lc_ne 172 dX10_kindOf_164 dX10_kindOf_165 (by decide) (fun c_164 => ?_) (fun c_164 => ?_)
                · refine x_iconst dX10_kindOf_172 (okI_c rfl) ?_
                  exact x_ireturn dX10_kindOf_173 rfl (by decide) (by decide) (retI (by unfold kindS; (repeat' split) <;> omega))
                · refine x_iconst dX10_kindOf_168 (okI_c rfl) ?_
                  refine x_goto 173 dX10_kindOf_169 (by decide) ?_
                  exact x_ireturn dX10_kindOf_173 rfl (by decide) (by decide) (retI (by unfold kindS; (repeat' split) <;> omega))
        · refine x_iload 2 dX10_kindOf_98 rfl ?_
          refine x_if_le 130 dX10_kindOf_100 (by decide) (fun c_100 => ?_) (fun c_100 => ?_)
          · refine x_iload 1 dX10_kindOf_130 rfl ?_
            refine x_iconst dX10_kindOf_132 (okI_c rfl) ?_
            refine x_icmp_le 172 dX10_kindOf_133 (by decide) (fun c_133 => ?_) (fun c_133 => ?_)
            · refine x_iconst dX10_kindOf_172 (okI_c rfl) ?_
              exact x_ireturn dX10_kindOf_173 rfl (by decide) (by decide) (retI (by unfold kindS; (repeat' split) <;> omega))
            · refine x_iload 2 dX10_kindOf_136 rfl ?_
              refine x_if_ne 172 dX10_kindOf_138 (by decide) (fun c_138 => ?_) (fun c_138 => ?_)
              · refine x_iconst dX10_kindOf_172 (okI_c rfl) ?_
                exact x_ireturn dX10_kindOf_173 rfl (by decide) (by decide) (retI (by unfold kindS; (repeat' split) <;> omega))
              · refine x_lload 0 dX10_kindOf_141 rfl ?_
                refine x_lconst (x := 0) dX10_kindOf_143 (okJ_c rfl) rfl ?_
                refine x_lc_le 172 dX10_kindOf_144 dX10_kindOf_145 (by decide) (fun c_144 => ?_) (fun c_144 => ?_)
                · refine x_iconst dX10_kindOf_172 (okI_c rfl) ?_
                  exact x_ireturn dX10_kindOf_173 rfl (by decide) (by decide) (retI (by unfold kindS; (repeat' split) <;> omega))
                · refine x_aload_n 4 dX10_kindOf_148 rfl rfl ?_
                  refine x_get 5 dX10_kindOf_149 fl_X10_23 hm rfl ?_
                  refine x_sipush dX10_kindOf_152 (okI_c rfl) (by decide +kernel) ?_
                  refine x_iload_n 5 dX10_kindOf_155 rfl rfl ?_
                  refine x_imul dX10_kindOf_156 (by unfold okI; omega) ?_
                  refine x_iload 1 dX10_kindOf_157 rfl ?_
                  refine x_iadd dX10_kindOf_159 (by unfold okI; omega) ?_
                  refine x_iconst dX10_kindOf_160 (okI_c rfl) ?_
                  refine x_isub dX10_kindOf_161 (by unfold okI; omega) ?_
                  refine x_laload dX10_kindOf_162 hb5 (by omega) (by omega) ?_
                  refine x_asJ (y := (A (D - 1).toNat)) (by have := eA (D - 1) (by omega) (by omega); rw [show 300 * f + (D - 1) = 300 * f + D - 1 by omega] at this; exact this) ?_
                  refine x_lconst (x := 0) dX10_kindOf_163 (okJ_c rfl) rfl ?_
                  refine x_lc_ne 172 dX10_kindOf_164 dX10_kindOf_165 (by decide) (fun c_164 => ?_) (fun c_164 => ?_)
                  · refine x_iconst dX10_kindOf_172 (okI_c rfl) ?_
                    exact x_ireturn dX10_kindOf_173 rfl (by decide) (by decide) (retI (by unfold kindS; (repeat' split) <;> omega))
                  · refine x_iconst dX10_kindOf_168 (okI_c rfl) ?_
                    refine x_goto 173 dX10_kindOf_169 (by decide) ?_
                    exact x_ireturn dX10_kindOf_173 rfl (by decide) (by decide) (retI (by unfold kindS; (repeat' split) <;> omega))
          · refine x_lload 0 dX10_kindOf_103 rfl ?_
            refine x_lconst (x := 0) dX10_kindOf_105 (okJ_c rfl) rfl ?_
            refine x_lc_le 130 dX10_kindOf_106 dX10_kindOf_107 (by decide) (fun c_106 => ?_) (fun c_106 => ?_)
            · refine x_iload 1 dX10_kindOf_130 rfl ?_
              refine x_iconst dX10_kindOf_132 (okI_c rfl) ?_
              refine x_icmp_le 172 dX10_kindOf_133 (by decide) (fun c_133 => ?_) (fun c_133 => ?_)
              · refine x_iconst dX10_kindOf_172 (okI_c rfl) ?_
                exact x_ireturn dX10_kindOf_173 rfl (by decide) (by decide) (retI (by unfold kindS; (repeat' split) <;> omega))
              · refine x_iload 2 dX10_kindOf_136 rfl ?_
                refine x_if_ne 172 dX10_kindOf_138 (by decide) (fun c_138 => ?_) (fun c_138 => ?_)
                · refine x_iconst dX10_kindOf_172 (okI_c rfl) ?_
                  exact x_ireturn dX10_kindOf_173 rfl (by decide) (by decide) (retI (by unfold kindS; (repeat' split) <;> omega))
                · refine x_lload 0 dX10_kindOf_141 rfl ?_
                  refine x_lconst (x := 0) dX10_kindOf_143 (okJ_c rfl) rfl ?_
                  refine x_lc_le 172 dX10_kindOf_144 dX10_kindOf_145 (by decide) (fun c_144 => ?_) (fun c_144 => ?_)
                  · refine x_iconst dX10_kindOf_172 (okI_c rfl) ?_
                    exact x_ireturn dX10_kindOf_173 rfl (by decide) (by decide) (retI (by unfold kindS; (repeat' split) <;> omega))
                  · refine x_aload_n 4 dX10_kindOf_148 rfl rfl ?_
                    refine x_get 5 dX10_kindOf_149 fl_X10_23 hm rfl ?_
                    refine x_sipush dX10_kindOf_152 (okI_c rfl) (by decide +kernel) ?_
                    refine x_iload_n 5 dX10_kindOf_155 rfl rfl ?_
                    refine x_imul dX10_kindOf_156 (by unfold okI; omega) ?_
                    refine x_iload 1 dX10_kindOf_157 rfl ?_
                    refine x_iadd dX10_kindOf_159 (by unfold okI; omega) ?_
                    refine x_iconst dX10_kindOf_160 (okI_c rfl) ?_
                    refine x_isub dX10_kindOf_161 (by unfold okI; omega) ?_
                    refine x_laload dX10_kindOf_162 hb5 (by omega) (by omega) ?_
                    refine x_asJ (y := (A (D - 1).toNat)) (by have := eA (D - 1) (by omega) (by omega); rw [show 300 * f + (D - 1) = 300 * f + D - 1 by omega] at this; exact this) ?_
                    refine x_lconst (x := 0) dX10_kindOf_163 (okJ_c rfl) rfl ?_
                    refine x_lc_ne 172 dX10_kindOf_164 dX10_kindOf_165 (by decide) (fun c_164 => ?_) (fun c_164 => ?_)
                    · refine x_iconst dX10_kindOf_172 (okI_c rfl) ?_
                      exact x_ireturn dX10_kindOf_173 rfl (by decide) (by decide) (retI (by unfold kindS; (repeat' split) <;> omega))
                    · refine x_iconst dX10_kindOf_168 (okI_c rfl) ?_
                      refine x_goto 173 dX10_kindOf_169 (by decide) ?_
                      exact x_ireturn dX10_kindOf_173 rfl (by decide) (by decide) (retI (by unfold kindS; (repeat' split) <;> omega))
            · refine x_aload_n 4 dX10_kindOf_110 rfl rfl ?_
              refine x_get 5 dX10_kindOf_111 fl_X10_23 hm rfl ?_
              refine x_sipush dX10_kindOf_114 (okI_c rfl) (by decide +kernel) ?_
              refine x_iload_n 5 dX10_kindOf_117 rfl rfl ?_
              refine x_imul dX10_kindOf_118 (by unfold okI; omega) ?_
              refine x_iload 2 dX10_kindOf_119 rfl ?_
              refine x_iadd dX10_kindOf_121 (by unfold okI; omega) ?_
              refine x_laload dX10_kindOf_122 hb5 (by omega) (by omega) ?_
              refine x_asJ (y := (A T.toNat)) (eA T (by omega) (by omega)) ?_
              refine x_lconst (x := 0) dX10_kindOf_123 (okJ_c rfl) rfl ?_
              refine x_lc_ne 130 dX10_kindOf_124 dX10_kindOf_125 (by decide) (fun c_124 => ?_) (fun c_124 => ?_)
              · refine x_iload 1 dX10_kindOf_130 rfl ?_
                refine x_iconst dX10_kindOf_132 (okI_c rfl) ?_
                refine x_icmp_le 172 dX10_kindOf_133 (by decide) (fun c_133 => ?_) (fun c_133 => ?_)
                · refine x_iconst dX10_kindOf_172 (okI_c rfl) ?_
                  exact x_ireturn dX10_kindOf_173 rfl (by decide) (by decide) (retI (by unfold kindS; (repeat' split) <;> omega))
                · refine x_iload 2 dX10_kindOf_136 rfl ?_
                  refine x_if_ne 172 dX10_kindOf_138 (by decide) (fun c_138 => ?_) (fun c_138 => ?_)
                  · refine x_iconst dX10_kindOf_172 (okI_c rfl) ?_
                    exact x_ireturn dX10_kindOf_173 rfl (by decide) (by decide) (retI (by unfold kindS; (repeat' split) <;> omega))
                  · refine x_lload 0 dX10_kindOf_141 rfl ?_
                    refine x_lconst (x := 0) dX10_kindOf_143 (okJ_c rfl) rfl ?_
                    refine x_lc_le 172 dX10_kindOf_144 dX10_kindOf_145 (by decide) (fun c_144 => ?_) (fun c_144 => ?_)
                    · refine x_iconst dX10_kindOf_172 (okI_c rfl) ?_
                      exact x_ireturn dX10_kindOf_173 rfl (by decide) (by decide) (retI (by unfold kindS; (repeat' split) <;> omega))
                    · refine x_aload_n 4 dX10_kindOf_148 rfl rfl ?_
                      refine x_get 5 dX10_kindOf_149 fl_X10_23 hm rfl ?_
                      refine x_sipush dX10_kindOf_152 (okI_c rfl) (by decide +kernel) ?_
                      refine x_iload_n 5 dX10_kindOf_155 rfl rfl ?_
                      refine x_imul dX10_kindOf_156 (by unfold okI; omega) ?_
                      refine x_iload 1 dX10_kindOf_157 rfl ?_
                      refine x_iadd dX10_kindOf_159 (by unfold okI; omega) ?_
                      refine x_iconst dX10_kindOf_160 (okI_c rfl) ?_
                      refine x_isub dX10_kindOf_161 (by unfold okI; omega) ?_
                      refine x_laload dX10_kindOf_162 hb5 (by omega) (by omega) ?_
                      refine x_asJ (y := (A (D - 1).toNat)) (by have := eA (D - 1) (by omega) (by omega); rw [show 300 * f + (D - 1) = 300 * f + D - 1 by omega] at this; exact this) ?_
                      refine x_lconst (x := 0) dX10_kindOf_163 (okJ_c rfl) rfl ?_
                      refine x_lc_ne 172 dX10_kindOf_164 dX10_kindOf_165 (by decide) (fun c_164 => ?_) (fun c_164 => ?_)
                      · refine x_iconst dX10_kindOf_172 (okI_c rfl) ?_
                        exact x_ireturn dX10_kindOf_173 rfl (by decide) (by decide) (retI (by unfold kindS; (repeat' split) <;> omega))
                      · refine x_iconst dX10_kindOf_168 (okI_c rfl) ?_
                        refine x_goto 173 dX10_kindOf_169 (by decide) ?_
                        exact x_ireturn dX10_kindOf_173 rfl (by decide) (by decide) (retI (by unfold kindS; (repeat' split) <;> omega))
              · refine x_iconst dX10_kindOf_128 (okI_c rfl) ?_
                exact x_ireturn dX10_kindOf_129 rfl (by decide) (by decide) (retI (by unfold kindS; (repeat' split) <;> omega))
      · refine x_iload 2 dX10_kindOf_79 rfl ?_
        refine x_if_ne 92 dX10_kindOf_81 (by decide) (fun c_81 => ?_) (fun c_81 => ?_)
        · refine x_iload 1 dX10_kindOf_92 rfl ?_
          refine x_iconst dX10_kindOf_94 (okI_c rfl) ?_
          refine x_icmp_ne 130 dX10_kindOf_95 (by decide) (fun c_95 => ?_) (fun c_95 => ?_)
          · refine x_iload 1 dX10_kindOf_130 rfl ?_
            refine x_iconst dX10_kindOf_132 (okI_c rfl) ?_
            refine x_icmp_le 172 dX10_kindOf_133 (by decide) (fun c_133 => ?_) (fun c_133 => ?_)
            · refine x_iconst dX10_kindOf_172 (okI_c rfl) ?_
              exact x_ireturn dX10_kindOf_173 rfl (by decide) (by decide) (retI (by unfold kindS; (repeat' split) <;> omega))
            · refine x_iload 2 dX10_kindOf_136 rfl ?_
              refine x_if_ne 172 dX10_kindOf_138 (by decide) (fun c_138 => ?_) (fun c_138 => ?_)
              · refine x_iconst dX10_kindOf_172 (okI_c rfl) ?_
                exact x_ireturn dX10_kindOf_173 rfl (by decide) (by decide) (retI (by unfold kindS; (repeat' split) <;> omega))
              · refine x_lload 0 dX10_kindOf_141 rfl ?_
                refine x_lconst (x := 0) dX10_kindOf_143 (okJ_c rfl) rfl ?_
                refine x_lc_le 172 dX10_kindOf_144 dX10_kindOf_145 (by decide) (fun c_144 => ?_) (fun c_144 => ?_)
                · refine x_iconst dX10_kindOf_172 (okI_c rfl) ?_
                  exact x_ireturn dX10_kindOf_173 rfl (by decide) (by decide) (retI (by unfold kindS; (repeat' split) <;> omega))
                · refine x_aload_n 4 dX10_kindOf_148 rfl rfl ?_
                  refine x_get 5 dX10_kindOf_149 fl_X10_23 hm rfl ?_
                  refine x_sipush dX10_kindOf_152 (okI_c rfl) (by decide +kernel) ?_
                  refine x_iload_n 5 dX10_kindOf_155 rfl rfl ?_
                  refine x_imul dX10_kindOf_156 (by unfold okI; omega) ?_
                  refine x_iload 1 dX10_kindOf_157 rfl ?_
                  refine x_iadd dX10_kindOf_159 (by unfold okI; omega) ?_
                  refine x_iconst dX10_kindOf_160 (okI_c rfl) ?_
                  refine x_isub dX10_kindOf_161 (by unfold okI; omega) ?_
                  refine x_laload dX10_kindOf_162 hb5 (by omega) (by omega) ?_
                  refine x_asJ (y := (A (D - 1).toNat)) (by have := eA (D - 1) (by omega) (by omega); rw [show 300 * f + (D - 1) = 300 * f + D - 1 by omega] at this; exact this) ?_
                  refine x_lconst (x := 0) dX10_kindOf_163 (okJ_c rfl) rfl ?_
                  refine x_lc_ne 172 dX10_kindOf_164 dX10_kindOf_165 (by decide) (fun c_164 => ?_) (fun c_164 => ?_)
                  · refine x_iconst dX10_kindOf_172 (okI_c rfl) ?_
                    exact x_ireturn dX10_kindOf_173 rfl (by decide) (by decide) (retI (by unfold kindS; (repeat' split) <;> omega))
                  · refine x_iconst dX10_kindOf_168 (okI_c rfl) ?_
                    refine x_goto 173 dX10_kindOf_169 (by decide) ?_
                    exact x_ireturn dX10_kindOf_173 rfl (by decide) (by decide) (retI (by unfold kindS; (repeat' split) <;> omega))
          · refine x_iload 2 dX10_kindOf_98 rfl ?_
            refine x_if_le 130 dX10_kindOf_100 (by decide) (fun c_100 => ?_) (fun c_100 => ?_)
            · refine x_iload 1 dX10_kindOf_130 rfl ?_
              refine x_iconst dX10_kindOf_132 (okI_c rfl) ?_
              refine x_icmp_le 172 dX10_kindOf_133 (by decide) (fun c_133 => ?_) (fun c_133 => ?_)
              · refine x_iconst dX10_kindOf_172 (okI_c rfl) ?_
                exact x_ireturn dX10_kindOf_173 rfl (by decide) (by decide) (retI (by unfold kindS; (repeat' split) <;> omega))
              · refine x_iload 2 dX10_kindOf_136 rfl ?_
                refine x_if_ne 172 dX10_kindOf_138 (by decide) (fun c_138 => ?_) (fun c_138 => ?_)
                · refine x_iconst dX10_kindOf_172 (okI_c rfl) ?_
                  exact x_ireturn dX10_kindOf_173 rfl (by decide) (by decide) (retI (by unfold kindS; (repeat' split) <;> omega))
                · refine x_lload 0 dX10_kindOf_141 rfl ?_
                  refine x_lconst (x := 0) dX10_kindOf_143 (okJ_c rfl) rfl ?_
                  refine x_lc_le 172 dX10_kindOf_144 dX10_kindOf_145 (by decide) (fun c_144 => ?_) (fun c_144 => ?_)
                  · refine x_iconst dX10_kindOf_172 (okI_c rfl) ?_
                    exact x_ireturn dX10_kindOf_173 rfl (by decide) (by decide) (retI (by unfold kindS; (repeat' split) <;> omega))
                  · refine x_aload_n 4 dX10_kindOf_148 rfl rfl ?_
                    refine x_get 5 dX10_kindOf_149 fl_X10_23 hm rfl ?_
                    refine x_sipush dX10_kindOf_152 (okI_c rfl) (by decide +kernel) ?_
                    refine x_iload_n 5 dX10_kindOf_155 rfl rfl ?_
                    refine x_imul dX10_kindOf_156 (by unfold okI; omega) ?_
                    refine x_iload 1 dX10_kindOf_157 rfl ?_
                    refine x_iadd dX10_kindOf_159 (by unfold okI; omega) ?_
                    refine x_iconst dX10_kindOf_160 (okI_c rfl) ?_
                    refine x_isub dX10_kindOf_161 (by unfold okI; omega) ?_
                    refine x_laload dX10_kindOf_162 hb5 (by omega) (by omega) ?_
                    refine x_asJ (y := (A (D - 1).toNat)) (by have := eA (D - 1) (by omega) (by omega); rw [show 300 * f + (D - 1) = 300 * f + D - 1 by omega] at this; exact this) ?_
                    refine x_lconst (x := 0) dX10_kindOf_163 (okJ_c rfl) rfl ?_
                    refine x_lc_ne 172 dX10_kindOf_164 dX10_kindOf_165 (by decide) (fun c_164 => ?_) (fun c_164 => ?_)
                    · refine x_iconst dX10_kindOf_172 (okI_c rfl) ?_
                      exact x_ireturn dX10_kindOf_173 rfl (by decide) (by decide) (retI (by unfold kindS; (repeat' split) <;> omega))
                    · refine x_iconst dX10_kindOf_168 (okI_c rfl) ?_
                      refine x_goto 173 dX10_kindOf_169 (by decide) ?_
                      exact x_ireturn dX10_kindOf_173 rfl (by decide) (by decide) (retI (by unfold kindS; (repeat' split) <;> omega))
            · refine x_lload 0 dX10_kindOf_103 rfl ?_
              refine x_lconst (x := 0) dX10_kindOf_105 (okJ_c rfl) rfl ?_
              refine x_lc_le 130 dX10_kindOf_106 dX10_kindOf_107 (by decide) (fun c_106 => ?_) (fun c_106 => ?_)
              · refine x_iload 1 dX10_kindOf_130 rfl ?_
                refine x_iconst dX10_kindOf_132 (okI_c rfl) ?_
                refine x_icmp_le 172 dX10_kindOf_133 (by decide) (fun c_133 => ?_) (fun c_133 => ?_)
                · refine x_iconst dX10_kindOf_172 (okI_c rfl) ?_
                  exact x_ireturn dX10_kindOf_173 rfl (by decide) (by decide) (retI (by unfold kindS; (repeat' split) <;> omega))
                · refine x_iload 2 dX10_kindOf_136 rfl ?_
                  refine x_if_ne 172 dX10_kindOf_138 (by decide) (fun c_138 => ?_) (fun c_138 => ?_)
                  · refine x_iconst dX10_kindOf_172 (okI_c rfl) ?_
                    exact x_ireturn dX10_kindOf_173 rfl (by decide) (by decide) (retI (by unfold kindS; (repeat' split) <;> omega))
                  · refine x_lload 0 dX10_kindOf_141 rfl ?_
                    refine x_lconst (x := 0) dX10_kindOf_143 (okJ_c rfl) rfl ?_
                    refine x_lc_le 172 dX10_kindOf_144 dX10_kindOf_145 (by decide) (fun c_144 => ?_) (fun c_144 => ?_)
                    · refine x_iconst dX10_kindOf_172 (okI_c rfl) ?_
                      exact x_ireturn dX10_kindOf_173 rfl (by decide) (by decide) (retI (by unfold kindS; (repeat' split) <;> omega))
                    · refine x_aload_n 4 dX10_kindOf_148 rfl rfl ?_
                      refine x_get 5 dX10_kindOf_149 fl_X10_23 hm rfl ?_
                      refine x_sipush dX10_kindOf_152 (okI_c rfl) (by decide +kernel) ?_
                      refine x_iload_n 5 dX10_kindOf_155 rfl rfl ?_
                      refine x_imul dX10_kindOf_156 (by unfold okI; omega) ?_
                      refine x_iload 1 dX10_kindOf_157 rfl ?_
                      refine x_iadd dX10_kindOf_159 (by unfold okI; omega) ?_
                      refine x_iconst dX10_kindOf_160 (okI_c rfl) ?_
                      refine x_isub dX10_kindOf_161 (by unfold okI; omega) ?_
                      refine x_laload dX10_kindOf_162 hb5 (by omega) (by omega) ?_
                      refine x_asJ (y := (A (D - 1).toNat)) (by have := eA (D - 1) (by omega) (by omega); rw [show 300 * f + (D - 1) = 300 * f + D - 1 by omega] at this; exact this) ?_
                      refine x_lconst (x := 0) dX10_kindOf_163 (okJ_c rfl) rfl ?_
                      refine x_lc_ne 172 dX10_kindOf_164 dX10_kindOf_165 (by decide) (fun c_164 => ?_) (fun c_164 => ?_)
                      · refine x_iconst dX10_kindOf_172 (okI_c rfl) ?_
                        exact x_ireturn dX10_kindOf_173 rfl (by decide) (by decide) (retI (by unfold kindS; (repeat' split) <;> omega))
                      · refine x_iconst dX10_kindOf_168 (okI_c rfl) ?_
                        refine x_goto 173 dX10_kindOf_169 (by decide) ?_
                        exact x_ireturn dX10_kindOf_173 rfl (by decide) (by decide) (retI (by unfold kindS; (repeat' split) <;> omega))
              · refine x_aload_n 4 dX10_kindOf_110 rfl rfl ?_
                refine x_get 5 dX10_kindOf_111 fl_X10_23 hm rfl ?_
                refine x_sipush dX10_kindOf_114 (okI_c rfl) (by decide +kernel) ?_
                refine x_iload_n 5 dX10_kindOf_117 rfl rfl ?_
                refine x_imul dX10_kindOf_118 (by unfold okI; omega) ?_
                refine x_iload 2 dX10_kindOf_119 rfl ?_
                refine x_iadd dX10_kindOf_121 (by unfold okI; omega) ?_
                refine x_laload dX10_kindOf_122 hb5 (by omega) (by omega) ?_
                refine x_asJ (y := (A T.toNat)) (eA T (by omega) (by omega)) ?_
                refine x_lconst (x := 0) dX10_kindOf_123 (okJ_c rfl) rfl ?_
                refine x_lc_ne 130 dX10_kindOf_124 dX10_kindOf_125 (by decide) (fun c_124 => ?_) (fun c_124 => ?_)
                · refine x_iload 1 dX10_kindOf_130 rfl ?_
                  refine x_iconst dX10_kindOf_132 (okI_c rfl) ?_
                  refine x_icmp_le 172 dX10_kindOf_133 (by decide) (fun c_133 => ?_) (fun c_133 => ?_)
                  · refine x_iconst dX10_kindOf_172 (okI_c rfl) ?_
                    exact x_ireturn dX10_kindOf_173 rfl (by decide) (by decide) (retI (by unfold kindS; (repeat' split) <;> omega))
                  · refine x_iload 2 dX10_kindOf_136 rfl ?_
                    refine x_if_ne 172 dX10_kindOf_138 (by decide) (fun c_138 => ?_) (fun c_138 => ?_)
                    · refine x_iconst dX10_kindOf_172 (okI_c rfl) ?_
                      exact x_ireturn dX10_kindOf_173 rfl (by decide) (by decide) (retI (by unfold kindS; (repeat' split) <;> omega))
                    · refine x_lload 0 dX10_kindOf_141 rfl ?_
                      refine x_lconst (x := 0) dX10_kindOf_143 (okJ_c rfl) rfl ?_
                      refine x_lc_le 172 dX10_kindOf_144 dX10_kindOf_145 (by decide) (fun c_144 => ?_) (fun c_144 => ?_)
                      · refine x_iconst dX10_kindOf_172 (okI_c rfl) ?_
                        exact x_ireturn dX10_kindOf_173 rfl (by decide) (by decide) (retI (by unfold kindS; (repeat' split) <;> omega))
                      · refine x_aload_n 4 dX10_kindOf_148 rfl rfl ?_
                        refine x_get 5 dX10_kindOf_149 fl_X10_23 hm rfl ?_
                        refine x_sipush dX10_kindOf_152 (okI_c rfl) (by decide +kernel) ?_
                        refine x_iload_n 5 dX10_kindOf_155 rfl rfl ?_
                        refine x_imul dX10_kindOf_156 (by unfold okI; omega) ?_
                        refine x_iload 1 dX10_kindOf_157 rfl ?_
                        refine x_iadd dX10_kindOf_159 (by unfold okI; omega) ?_
                        refine x_iconst dX10_kindOf_160 (okI_c rfl) ?_
                        refine x_isub dX10_kindOf_161 (by unfold okI; omega) ?_
                        refine x_laload dX10_kindOf_162 hb5 (by omega) (by omega) ?_
                        refine x_asJ (y := (A (D - 1).toNat)) (by have := eA (D - 1) (by omega) (by omega); rw [show 300 * f + (D - 1) = 300 * f + D - 1 by omega] at this; exact this) ?_
                        refine x_lconst (x := 0) dX10_kindOf_163 (okJ_c rfl) rfl ?_
                        refine x_lc_ne 172 dX10_kindOf_164 dX10_kindOf_165 (by decide) (fun c_164 => ?_) (fun c_164 => ?_)
                        · refine x_iconst dX10_kindOf_172 (okI_c rfl) ?_
                          exact x_ireturn dX10_kindOf_173 rfl (by decide) (by decide) (retI (by unfold kindS; (repeat' split) <;> omega))
                        · refine x_iconst dX10_kindOf_168 (okI_c rfl) ?_
                          refine x_goto 173 dX10_kindOf_169 (by decide) ?_
                          exact x_ireturn dX10_kindOf_173 rfl (by decide) (by decide) (retI (by unfold kindS; (repeat' split) <;> omega))
                · refine x_iconst dX10_kindOf_128 (okI_c rfl) ?_
                  exact x_ireturn dX10_kindOf_129 rfl (by decide) (by decide) (retI (by unfold kindS; (repeat' split) <;> omega))
        · refine x_lload_n 3 dX10_kindOf_84 rfl rfl ?_
          refine x_lconst (x := 0) dX10_kindOf_85 (okJ_c rfl) rfl ?_
          refine x_lc_ne 92 dX10_kindOf_86 dX10_kindOf_87 (by decide) (fun c_86 => ?_) (fun c_86 => ?_)
          · refine x_iload 1 dX10_kindOf_92 rfl ?_
            refine x_iconst dX10_kindOf_94 (okI_c rfl) ?_
            refine x_icmp_ne 130 dX10_kindOf_95 (by decide) (fun c_95 => ?_) (fun c_95 => ?_)
            · refine x_iload 1 dX10_kindOf_130 rfl ?_
              refine x_iconst dX10_kindOf_132 (okI_c rfl) ?_
              refine x_icmp_le 172 dX10_kindOf_133 (by decide) (fun c_133 => ?_) (fun c_133 => ?_)
              · refine x_iconst dX10_kindOf_172 (okI_c rfl) ?_
                exact x_ireturn dX10_kindOf_173 rfl (by decide) (by decide) (retI (by unfold kindS; (repeat' split) <;> omega))
              · refine x_iload 2 dX10_kindOf_136 rfl ?_
                refine x_if_ne 172 dX10_kindOf_138 (by decide) (fun c_138 => ?_) (fun c_138 => ?_)
                · refine x_iconst dX10_kindOf_172 (okI_c rfl) ?_
                  exact x_ireturn dX10_kindOf_173 rfl (by decide) (by decide) (retI (by unfold kindS; (repeat' split) <;> omega))
                · refine x_lload 0 dX10_kindOf_141 rfl ?_
                  refine x_lconst (x := 0) dX10_kindOf_143 (okJ_c rfl) rfl ?_
                  refine x_lc_le 172 dX10_kindOf_144 dX10_kindOf_145 (by decide) (fun c_144 => ?_) (fun c_144 => ?_)
                  · refine x_iconst dX10_kindOf_172 (okI_c rfl) ?_
                    exact x_ireturn dX10_kindOf_173 rfl (by decide) (by decide) (retI (by unfold kindS; (repeat' split) <;> omega))
                  · refine x_aload_n 4 dX10_kindOf_148 rfl rfl ?_
                    refine x_get 5 dX10_kindOf_149 fl_X10_23 hm rfl ?_
                    refine x_sipush dX10_kindOf_152 (okI_c rfl) (by decide +kernel) ?_
                    refine x_iload_n 5 dX10_kindOf_155 rfl rfl ?_
                    refine x_imul dX10_kindOf_156 (by unfold okI; omega) ?_
                    refine x_iload 1 dX10_kindOf_157 rfl ?_
                    refine x_iadd dX10_kindOf_159 (by unfold okI; omega) ?_
                    refine x_iconst dX10_kindOf_160 (okI_c rfl) ?_
                    refine x_isub dX10_kindOf_161 (by unfold okI; omega) ?_
                    refine x_laload dX10_kindOf_162 hb5 (by omega) (by omega) ?_
                    refine x_asJ (y := (A (D - 1).toNat)) (by have := eA (D - 1) (by omega) (by omega); rw [show 300 * f + (D - 1) = 300 * f + D - 1 by omega] at this; exact this) ?_
                    refine x_lconst (x := 0) dX10_kindOf_163 (okJ_c rfl) rfl ?_
                    refine x_lc_ne 172 dX10_kindOf_164 dX10_kindOf_165 (by decide) (fun c_164 => ?_) (fun c_164 => ?_)
                    · refine x_iconst dX10_kindOf_172 (okI_c rfl) ?_
                      exact x_ireturn dX10_kindOf_173 rfl (by decide) (by decide) (retI (by unfold kindS; (repeat' split) <;> omega))
                    · refine x_iconst dX10_kindOf_168 (okI_c rfl) ?_
                      refine x_goto 173 dX10_kindOf_169 (by decide) ?_
                      exact x_ireturn dX10_kindOf_173 rfl (by decide) (by decide) (retI (by unfold kindS; (repeat' split) <;> omega))
            · refine x_iload 2 dX10_kindOf_98 rfl ?_
              refine x_if_le 130 dX10_kindOf_100 (by decide) (fun c_100 => ?_) (fun c_100 => ?_)
              · refine x_iload 1 dX10_kindOf_130 rfl ?_
                refine x_iconst dX10_kindOf_132 (okI_c rfl) ?_
                refine x_icmp_le 172 dX10_kindOf_133 (by decide) (fun c_133 => ?_) (fun c_133 => ?_)
                · refine x_iconst dX10_kindOf_172 (okI_c rfl) ?_
                  exact x_ireturn dX10_kindOf_173 rfl (by decide) (by decide) (retI (by unfold kindS; (repeat' split) <;> omega))
                · refine x_iload 2 dX10_kindOf_136 rfl ?_
                  refine x_if_ne 172 dX10_kindOf_138 (by decide) (fun c_138 => ?_) (fun c_138 => ?_)
                  · refine x_iconst dX10_kindOf_172 (okI_c rfl) ?_
                    exact x_ireturn dX10_kindOf_173 rfl (by decide) (by decide) (retI (by unfold kindS; (repeat' split) <;> omega))
                  · refine x_lload 0 dX10_kindOf_141 rfl ?_
                    refine x_lconst (x := 0) dX10_kindOf_143 (okJ_c rfl) rfl ?_
                    refine x_lc_le 172 dX10_kindOf_144 dX10_kindOf_145 (by decide) (fun c_144 => ?_) (fun c_144 => ?_)
                    · refine x_iconst dX10_kindOf_172 (okI_c rfl) ?_
                      exact x_ireturn dX10_kindOf_173 rfl (by decide) (by decide) (retI (by unfold kindS; (repeat' split) <;> omega))
                    · refine x_aload_n 4 dX10_kindOf_148 rfl rfl ?_
                      refine x_get 5 dX10_kindOf_149 fl_X10_23 hm rfl ?_
                      refine x_sipush dX10_kindOf_152 (okI_c rfl) (by decide +kernel) ?_
                      refine x_iload_n 5 dX10_kindOf_155 rfl rfl ?_
                      refine x_imul dX10_kindOf_156 (by unfold okI; omega) ?_
                      refine x_iload 1 dX10_kindOf_157 rfl ?_
                      refine x_iadd dX10_kindOf_159 (by unfold okI; omega) ?_
                      refine x_iconst dX10_kindOf_160 (okI_c rfl) ?_
                      refine x_isub dX10_kindOf_161 (by unfold okI; omega) ?_
                      refine x_laload dX10_kindOf_162 hb5 (by omega) (by omega) ?_
                      refine x_asJ (y := (A (D - 1).toNat)) (by have := eA (D - 1) (by omega) (by omega); rw [show 300 * f + (D - 1) = 300 * f + D - 1 by omega] at this; exact this) ?_
                      refine x_lconst (x := 0) dX10_kindOf_163 (okJ_c rfl) rfl ?_
                      refine x_lc_ne 172 dX10_kindOf_164 dX10_kindOf_165 (by decide) (fun c_164 => ?_) (fun c_164 => ?_)
                      · refine x_iconst dX10_kindOf_172 (okI_c rfl) ?_
                        exact x_ireturn dX10_kindOf_173 rfl (by decide) (by decide) (retI (by unfold kindS; (repeat' split) <;> omega))
                      · refine x_iconst dX10_kindOf_168 (okI_c rfl) ?_
                        refine x_goto 173 dX10_kindOf_169 (by decide) ?_
                        exact x_ireturn dX10_kindOf_173 rfl (by decide) (by decide) (retI (by unfold kindS; (repeat' split) <;> omega))
              · refine x_lload 0 dX10_kindOf_103 rfl ?_
                refine x_lconst (x := 0) dX10_kindOf_105 (okJ_c rfl) rfl ?_
                refine x_lc_le 130 dX10_kindOf_106 dX10_kindOf_107 (by decide) (fun c_106 => ?_) (fun c_106 => ?_)
                · refine x_iload 1 dX10_kindOf_130 rfl ?_
                  refine x_iconst dX10_kindOf_132 (okI_c rfl) ?_
                  refine x_icmp_le 172 dX10_kindOf_133 (by decide) (fun c_133 => ?_) (fun c_133 => ?_)
                  · refine x_iconst dX10_kindOf_172 (okI_c rfl) ?_
                    exact x_ireturn dX10_kindOf_173 rfl (by decide) (by decide) (retI (by unfold kindS; (repeat' split) <;> omega))
                  · refine x_iload 2 dX10_kindOf_136 rfl ?_
                    refine x_if_ne 172 dX10_kindOf_138 (by decide) (fun c_138 => ?_) (fun c_138 => ?_)
                    · refine x_iconst dX10_kindOf_172 (okI_c rfl) ?_
                      exact x_ireturn dX10_kindOf_173 rfl (by decide) (by decide) (retI (by unfold kindS; (repeat' split) <;> omega))
                    · refine x_lload 0 dX10_kindOf_141 rfl ?_
                      refine x_lconst (x := 0) dX10_kindOf_143 (okJ_c rfl) rfl ?_
                      refine x_lc_le 172 dX10_kindOf_144 dX10_kindOf_145 (by decide) (fun c_144 => ?_) (fun c_144 => ?_)
                      · refine x_iconst dX10_kindOf_172 (okI_c rfl) ?_
                        exact x_ireturn dX10_kindOf_173 rfl (by decide) (by decide) (retI (by unfold kindS; (repeat' split) <;> omega))
                      · refine x_aload_n 4 dX10_kindOf_148 rfl rfl ?_
                        refine x_get 5 dX10_kindOf_149 fl_X10_23 hm rfl ?_
                        refine x_sipush dX10_kindOf_152 (okI_c rfl) (by decide +kernel) ?_
                        refine x_iload_n 5 dX10_kindOf_155 rfl rfl ?_
                        refine x_imul dX10_kindOf_156 (by unfold okI; omega) ?_
                        refine x_iload 1 dX10_kindOf_157 rfl ?_
                        refine x_iadd dX10_kindOf_159 (by unfold okI; omega) ?_
                        refine x_iconst dX10_kindOf_160 (okI_c rfl) ?_
                        refine x_isub dX10_kindOf_161 (by unfold okI; omega) ?_
                        refine x_laload dX10_kindOf_162 hb5 (by omega) (by omega) ?_
                        refine x_asJ (y := (A (D - 1).toNat)) (by have := eA (D - 1) (by omega) (by omega); rw [show 300 * f + (D - 1) = 300 * f + D - 1 by omega] at this; exact this) ?_
                        refine x_lconst (x := 0) dX10_kindOf_163 (okJ_c rfl) rfl ?_
                        refine x_lc_ne 172 dX10_kindOf_164 dX10_kindOf_165 (by decide) (fun c_164 => ?_) (fun c_164 => ?_)
                        · refine x_iconst dX10_kindOf_172 (okI_c rfl) ?_
                          exact x_ireturn dX10_kindOf_173 rfl (by decide) (by decide) (retI (by unfold kindS; (repeat' split) <;> omega))
                        · refine x_iconst dX10_kindOf_168 (okI_c rfl) ?_
                          refine x_goto 173 dX10_kindOf_169 (by decide) ?_
                          exact x_ireturn dX10_kindOf_173 rfl (by decide) (by decide) (retI (by unfold kindS; (repeat' split) <;> omega))
                · refine x_aload_n 4 dX10_kindOf_110 rfl rfl ?_
                  refine x_get 5 dX10_kindOf_111 fl_X10_23 hm rfl ?_
                  refine x_sipush dX10_kindOf_114 (okI_c rfl) (by decide +kernel) ?_
                  refine x_iload_n 5 dX10_kindOf_117 rfl rfl ?_
                  refine x_imul dX10_kindOf_118 (by unfold okI; omega) ?_
                  refine x_iload 2 dX10_kindOf_119 rfl ?_
                  refine x_iadd dX10_kindOf_121 (by unfold okI; omega) ?_
                  refine x_laload dX10_kindOf_122 hb5 (by omega) (by omega) ?_
                  refine x_asJ (y := (A T.toNat)) (eA T (by omega) (by omega)) ?_
                  refine x_lconst (x := 0) dX10_kindOf_123 (okJ_c rfl) rfl ?_
                  refine x_lc_ne 130 dX10_kindOf_124 dX10_kindOf_125 (by decide) (fun c_124 => ?_) (fun c_124 => ?_)
                  · refine x_iload 1 dX10_kindOf_130 rfl ?_
                    refine x_iconst dX10_kindOf_132 (okI_c rfl) ?_
                    refine x_icmp_le 172 dX10_kindOf_133 (by decide) (fun c_133 => ?_) (fun c_133 => ?_)
                    · refine x_iconst dX10_kindOf_172 (okI_c rfl) ?_
                      exact x_ireturn dX10_kindOf_173 rfl (by decide) (by decide) (retI (by unfold kindS; (repeat' split) <;> omega))
                    · refine x_iload 2 dX10_kindOf_136 rfl ?_
                      refine x_if_ne 172 dX10_kindOf_138 (by decide) (fun c_138 => ?_) (fun c_138 => ?_)
                      · refine x_iconst dX10_kindOf_172 (okI_c rfl) ?_
                        exact x_ireturn dX10_kindOf_173 rfl (by decide) (by decide) (retI (by unfold kindS; (repeat' split) <;> omega))
                      · refine x_lload 0 dX10_kindOf_141 rfl ?_
                        refine x_lconst (x := 0) dX10_kindOf_143 (okJ_c rfl) rfl ?_
                        refine x_lc_le 172 dX10_kindOf_144 dX10_kindOf_145 (by decide) (fun c_144 => ?_) (fun c_144 => ?_)
                        · refine x_iconst dX10_kindOf_172 (okI_c rfl) ?_
                          exact x_ireturn dX10_kindOf_173 rfl (by decide) (by decide) (retI (by unfold kindS; (repeat' split) <;> omega))
                        · refine x_aload_n 4 dX10_kindOf_148 rfl rfl ?_
                          refine x_get 5 dX10_kindOf_149 fl_X10_23 hm rfl ?_
                          refine x_sipush dX10_kindOf_152 (okI_c rfl) (by decide +kernel) ?_
                          refine x_iload_n 5 dX10_kindOf_155 rfl rfl ?_
                          refine x_imul dX10_kindOf_156 (by unfold okI; omega) ?_
                          refine x_iload 1 dX10_kindOf_157 rfl ?_
                          refine x_iadd dX10_kindOf_159 (by unfold okI; omega) ?_
                          refine x_iconst dX10_kindOf_160 (okI_c rfl) ?_
                          refine x_isub dX10_kindOf_161 (by unfold okI; omega) ?_
                          refine x_laload dX10_kindOf_162 hb5 (by omega) (by omega) ?_
                          refine x_asJ (y := (A (D - 1).toNat)) (by have := eA (D - 1) (by omega) (by omega); rw [show 300 * f + (D - 1) = 300 * f + D - 1 by omega] at this; exact this) ?_
                          refine x_lconst (x := 0) dX10_kindOf_163 (okJ_c rfl) rfl ?_
                          refine x_lc_ne 172 dX10_kindOf_164 dX10_kindOf_165 (by decide) (fun c_164 => ?_) (fun c_164 => ?_)
                          · refine x_iconst dX10_kindOf_172 (okI_c rfl) ?_
                            exact x_ireturn dX10_kindOf_173 rfl (by decide) (by decide) (retI (by unfold kindS; (repeat' split) <;> omega))
                          · refine x_iconst dX10_kindOf_168 (okI_c rfl) ?_
                            refine x_goto 173 dX10_kindOf_169 (by decide) ?_
                            exact x_ireturn dX10_kindOf_173 rfl (by decide) (by decide) (retI (by unfold kindS; (repeat' split) <;> omega))
                  · refine x_iconst dX10_kindOf_128 (okI_c rfl) ?_
                    exact x_ireturn dX10_kindOf_129 rfl (by decide) (by decide) (retI (by unfold kindS; (repeat' split) <;> omega))
          · refine x_iconst dX10_kindOf_90 (okI_c rfl) ?_
            exact x_ireturn dX10_kindOf_91 rfl (by decide) (by decide) (retI (by unfold kindS; (repeat' split) <;> omega))
    · refine x_lload_n 3 dX10_kindOf_47 rfl rfl ?_
      refine x_lconst (x := 0) dX10_kindOf_48 (okJ_c rfl) rfl ?_
      refine x_lc_ne 73 dX10_kindOf_49 dX10_kindOf_50 (by decide) (fun c_49 => ?_) (fun c_49 => ?_)
      · refine x_iload 1 dX10_kindOf_73 rfl ?_
        refine x_iconst dX10_kindOf_75 (okI_c rfl) ?_
        refine x_icmp_ne 92 dX10_kindOf_76 (by decide) (fun c_76 => ?_) (fun c_76 => ?_)
        · refine x_iload 1 dX10_kindOf_92 rfl ?_
          refine x_iconst dX10_kindOf_94 (okI_c rfl) ?_
          refine x_icmp_ne 130 dX10_kindOf_95 (by decide) (fun c_95 => ?_) (fun c_95 => ?_)
          · refine x_iload 1 dX10_kindOf_130 rfl ?_
            refine x_iconst dX10_kindOf_132 (okI_c rfl) ?_
            refine x_icmp_le 172 dX10_kindOf_133 (by decide) (fun c_133 => ?_) (fun c_133 => ?_)
            · refine x_iconst dX10_kindOf_172 (okI_c rfl) ?_
              exact x_ireturn dX10_kindOf_173 rfl (by decide) (by decide) (retI (by unfold kindS; (repeat' split) <;> omega))
            · refine x_iload 2 dX10_kindOf_136 rfl ?_
              refine x_if_ne 172 dX10_kindOf_138 (by decide) (fun c_138 => ?_) (fun c_138 => ?_)
              · refine x_iconst dX10_kindOf_172 (okI_c rfl) ?_
                exact x_ireturn dX10_kindOf_173 rfl (by decide) (by decide) (retI (by unfold kindS; (repeat' split) <;> omega))
              · refine x_lload 0 dX10_kindOf_141 rfl ?_
                refine x_lconst (x := 0) dX10_kindOf_143 (okJ_c rfl) rfl ?_
                refine x_lc_le 172 dX10_kindOf_144 dX10_kindOf_145 (by decide) (fun c_144 => ?_) (fun c_144 => ?_)
                · refine x_iconst dX10_kindOf_172 (okI_c rfl) ?_
                  exact x_ireturn dX10_kindOf_173 rfl (by decide) (by decide) (retI (by unfold kindS; (repeat' split) <;> omega))
                · refine x_aload_n 4 dX10_kindOf_148 rfl rfl ?_
                  refine x_get 5 dX10_kindOf_149 fl_X10_23 hm rfl ?_
                  refine x_sipush dX10_kindOf_152 (okI_c rfl) (by decide +kernel) ?_
                  refine x_iload_n 5 dX10_kindOf_155 rfl rfl ?_
                  refine x_imul dX10_kindOf_156 (by unfold okI; omega) ?_
                  refine x_iload 1 dX10_kindOf_157 rfl ?_
                  refine x_iadd dX10_kindOf_159 (by unfold okI; omega) ?_
                  refine x_iconst dX10_kindOf_160 (okI_c rfl) ?_
                  refine x_isub dX10_kindOf_161 (by unfold okI; omega) ?_
                  refine x_laload dX10_kindOf_162 hb5 (by omega) (by omega) ?_
                  refine x_asJ (y := (A (D - 1).toNat)) (by have := eA (D - 1) (by omega) (by omega); rw [show 300 * f + (D - 1) = 300 * f + D - 1 by omega] at this; exact this) ?_
                  refine x_lconst (x := 0) dX10_kindOf_163 (okJ_c rfl) rfl ?_
                  refine x_lc_ne 172 dX10_kindOf_164 dX10_kindOf_165 (by decide) (fun c_164 => ?_) (fun c_164 => ?_)
                  · refine x_iconst dX10_kindOf_172 (okI_c rfl) ?_
                    exact x_ireturn dX10_kindOf_173 rfl (by decide) (by decide) (retI (by unfold kindS; (repeat' split) <;> omega))
                  · refine x_iconst dX10_kindOf_168 (okI_c rfl) ?_
                    refine x_goto 173 dX10_kindOf_169 (by decide) ?_
                    exact x_ireturn dX10_kindOf_173 rfl (by decide) (by decide) (retI (by unfold kindS; (repeat' split) <;> omega))
          · refine x_iload 2 dX10_kindOf_98 rfl ?_
            refine x_if_le 130 dX10_kindOf_100 (by decide) (fun c_100 => ?_) (fun c_100 => ?_)
            · refine x_iload 1 dX10_kindOf_130 rfl ?_
              refine x_iconst dX10_kindOf_132 (okI_c rfl) ?_
              refine x_icmp_le 172 dX10_kindOf_133 (by decide) (fun c_133 => ?_) (fun c_133 => ?_)
              · refine x_iconst dX10_kindOf_172 (okI_c rfl) ?_
                exact x_ireturn dX10_kindOf_173 rfl (by decide) (by decide) (retI (by unfold kindS; (repeat' split) <;> omega))
              · refine x_iload 2 dX10_kindOf_136 rfl ?_
                refine x_if_ne 172 dX10_kindOf_138 (by decide) (fun c_138 => ?_) (fun c_138 => ?_)
                · refine x_iconst dX10_kindOf_172 (okI_c rfl) ?_
                  exact x_ireturn dX10_kindOf_173 rfl (by decide) (by decide) (retI (by unfold kindS; (repeat' split) <;> omega))
                · refine x_lload 0 dX10_kindOf_141 rfl ?_
                  refine x_lconst (x := 0) dX10_kindOf_143 (okJ_c rfl) rfl ?_
                  refine x_lc_le 172 dX10_kindOf_144 dX10_kindOf_145 (by decide) (fun c_144 => ?_) (fun c_144 => ?_)
                  · refine x_iconst dX10_kindOf_172 (okI_c rfl) ?_
                    exact x_ireturn dX10_kindOf_173 rfl (by decide) (by decide) (retI (by unfold kindS; (repeat' split) <;> omega))
                  · refine x_aload_n 4 dX10_kindOf_148 rfl rfl ?_
                    refine x_get 5 dX10_kindOf_149 fl_X10_23 hm rfl ?_
                    refine x_sipush dX10_kindOf_152 (okI_c rfl) (by decide +kernel) ?_
                    refine x_iload_n 5 dX10_kindOf_155 rfl rfl ?_
                    refine x_imul dX10_kindOf_156 (by unfold okI; omega) ?_
                    refine x_iload 1 dX10_kindOf_157 rfl ?_
                    refine x_iadd dX10_kindOf_159 (by unfold okI; omega) ?_
                    refine x_iconst dX10_kindOf_160 (okI_c rfl) ?_
                    refine x_isub dX10_kindOf_161 (by unfold okI; omega) ?_
                    refine x_laload dX10_kindOf_162 hb5 (by omega) (by omega) ?_
                    refine x_asJ (y := (A (D - 1).toNat)) (by have := eA (D - 1) (by omega) (by omega); rw [show 300 * f + (D - 1) = 300 * f + D - 1 by omega] at this; exact this) ?_
                    refine x_lconst (x := 0) dX10_kindOf_163 (okJ_c rfl) rfl ?_
                    refine x_lc_ne 172 dX10_kindOf_164 dX10_kindOf_165 (by decide) (fun c_164 => ?_) (fun c_164 => ?_)
                    · refine x_iconst dX10_kindOf_172 (okI_c rfl) ?_
                      exact x_ireturn dX10_kindOf_173 rfl (by decide) (by decide) (retI (by unfold kindS; (repeat' split) <;> omega))
                    · refine x_iconst dX10_kindOf_168 (okI_c rfl) ?_
                      refine x_goto 173 dX10_kindOf_169 (by decide) ?_
                      exact x_ireturn dX10_kindOf_173 rfl (by decide) (by decide) (retI (by unfold kindS; (repeat' split) <;> omega))
            · refine x_lload 0 dX10_kindOf_103 rfl ?_
              refine x_lconst (x := 0) dX10_kindOf_105 (okJ_c rfl) rfl ?_
              refine x_lc_le 130 dX10_kindOf_106 dX10_kindOf_107 (by decide) (fun c_106 => ?_) (fun c_106 => ?_)
              · refine x_iload 1 dX10_kindOf_130 rfl ?_
                refine x_iconst dX10_kindOf_132 (okI_c rfl) ?_
                refine x_icmp_le 172 dX10_kindOf_133 (by decide) (fun c_133 => ?_) (fun c_133 => ?_)
                · refine x_iconst dX10_kindOf_172 (okI_c rfl) ?_
                  exact x_ireturn dX10_kindOf_173 rfl (by decide) (by decide) (retI (by unfold kindS; (repeat' split) <;> omega))
                · refine x_iload 2 dX10_kindOf_136 rfl ?_
                  refine x_if_ne 172 dX10_kindOf_138 (by decide) (fun c_138 => ?_) (fun c_138 => ?_)
                  · refine x_iconst dX10_kindOf_172 (okI_c rfl) ?_
                    exact x_ireturn dX10_kindOf_173 rfl (by decide) (by decide) (retI (by unfold kindS; (repeat' split) <;> omega))
                  · refine x_lload 0 dX10_kindOf_141 rfl ?_
                    refine x_lconst (x := 0) dX10_kindOf_143 (okJ_c rfl) rfl ?_
                    refine x_lc_le 172 dX10_kindOf_144 dX10_kindOf_145 (by decide) (fun c_144 => ?_) (fun c_144 => ?_)
                    · refine x_iconst dX10_kindOf_172 (okI_c rfl) ?_
                      exact x_ireturn dX10_kindOf_173 rfl (by decide) (by decide) (retI (by unfold kindS; (repeat' split) <;> omega))
                    · refine x_aload_n 4 dX10_kindOf_148 rfl rfl ?_
                      refine x_get 5 dX10_kindOf_149 fl_X10_23 hm rfl ?_
                      refine x_sipush dX10_kindOf_152 (okI_c rfl) (by decide +kernel) ?_
                      refine x_iload_n 5 dX10_kindOf_155 rfl rfl ?_
                      refine x_imul dX10_kindOf_156 (by unfold okI; omega) ?_
                      refine x_iload 1 dX10_kindOf_157 rfl ?_
                      refine x_iadd dX10_kindOf_159 (by unfold okI; omega) ?_
                      refine x_iconst dX10_kindOf_160 (okI_c rfl) ?_
                      refine x_isub dX10_kindOf_161 (by unfold okI; omega) ?_
                      refine x_laload dX10_kindOf_162 hb5 (by omega) (by omega) ?_
                      refine x_asJ (y := (A (D - 1).toNat)) (by have := eA (D - 1) (by omega) (by omega); rw [show 300 * f + (D - 1) = 300 * f + D - 1 by omega] at this; exact this) ?_
                      refine x_lconst (x := 0) dX10_kindOf_163 (okJ_c rfl) rfl ?_
                      refine x_lc_ne 172 dX10_kindOf_164 dX10_kindOf_165 (by decide) (fun c_164 => ?_) (fun c_164 => ?_)
                      · refine x_iconst dX10_kindOf_172 (okI_c rfl) ?_
                        exact x_ireturn dX10_kindOf_173 rfl (by decide) (by decide) (retI (by unfold kindS; (repeat' split) <;> omega))
                      · refine x_iconst dX10_kindOf_168 (okI_c rfl) ?_
                        refine x_goto 173 dX10_kindOf_169 (by decide) ?_
                        exact x_ireturn dX10_kindOf_173 rfl (by decide) (by decide) (retI (by unfold kindS; (repeat' split) <;> omega))
              · refine x_aload_n 4 dX10_kindOf_110 rfl rfl ?_
                refine x_get 5 dX10_kindOf_111 fl_X10_23 hm rfl ?_
                refine x_sipush dX10_kindOf_114 (okI_c rfl) (by decide +kernel) ?_
                refine x_iload_n 5 dX10_kindOf_117 rfl rfl ?_
                refine x_imul dX10_kindOf_118 (by unfold okI; omega) ?_
                refine x_iload 2 dX10_kindOf_119 rfl ?_
                refine x_iadd dX10_kindOf_121 (by unfold okI; omega) ?_
                refine x_laload dX10_kindOf_122 hb5 (by omega) (by omega) ?_
                refine x_asJ (y := (A T.toNat)) (eA T (by omega) (by omega)) ?_
                refine x_lconst (x := 0) dX10_kindOf_123 (okJ_c rfl) rfl ?_
                refine x_lc_ne 130 dX10_kindOf_124 dX10_kindOf_125 (by decide) (fun c_124 => ?_) (fun c_124 => ?_)
                · refine x_iload 1 dX10_kindOf_130 rfl ?_
                  refine x_iconst dX10_kindOf_132 (okI_c rfl) ?_
                  refine x_icmp_le 172 dX10_kindOf_133 (by decide) (fun c_133 => ?_) (fun c_133 => ?_)
                  · refine x_iconst dX10_kindOf_172 (okI_c rfl) ?_
                    exact x_ireturn dX10_kindOf_173 rfl (by decide) (by decide) (retI (by unfold kindS; (repeat' split) <;> omega))
                  · refine x_iload 2 dX10_kindOf_136 rfl ?_
                    refine x_if_ne 172 dX10_kindOf_138 (by decide) (fun c_138 => ?_) (fun c_138 => ?_)
                    · refine x_iconst dX10_kindOf_172 (okI_c rfl) ?_
                      exact x_ireturn dX10_kindOf_173 rfl (by decide) (by decide) (retI (by unfold kindS; (repeat' split) <;> omega))
                    · refine x_lload 0 dX10_kindOf_141 rfl ?_
                      refine x_lconst (x := 0) dX10_kindOf_143 (okJ_c rfl) rfl ?_
                      refine x_lc_le 172 dX10_kindOf_144 dX10_kindOf_145 (by decide) (fun c_144 => ?_) (fun c_144 => ?_)
                      · refine x_iconst dX10_kindOf_172 (okI_c rfl) ?_
                        exact x_ireturn dX10_kindOf_173 rfl (by decide) (by decide) (retI (by unfold kindS; (repeat' split) <;> omega))
                      · refine x_aload_n 4 dX10_kindOf_148 rfl rfl ?_
                        refine x_get 5 dX10_kindOf_149 fl_X10_23 hm rfl ?_
                        refine x_sipush dX10_kindOf_152 (okI_c rfl) (by decide +kernel) ?_
                        refine x_iload_n 5 dX10_kindOf_155 rfl rfl ?_
                        refine x_imul dX10_kindOf_156 (by unfold okI; omega) ?_
                        refine x_iload 1 dX10_kindOf_157 rfl ?_
                        refine x_iadd dX10_kindOf_159 (by unfold okI; omega) ?_
                        refine x_iconst dX10_kindOf_160 (okI_c rfl) ?_
                        refine x_isub dX10_kindOf_161 (by unfold okI; omega) ?_
                        refine x_laload dX10_kindOf_162 hb5 (by omega) (by omega) ?_
                        refine x_asJ (y := (A (D - 1).toNat)) (by have := eA (D - 1) (by omega) (by omega); rw [show 300 * f + (D - 1) = 300 * f + D - 1 by omega] at this; exact this) ?_
                        refine x_lconst (x := 0) dX10_kindOf_163 (okJ_c rfl) rfl ?_
                        refine x_lc_ne 172 dX10_kindOf_164 dX10_kindOf_165 (by decide) (fun c_164 => ?_) (fun c_164 => ?_)
                        · refine x_iconst dX10_kindOf_172 (okI_c rfl) ?_
                          exact x_ireturn dX10_kindOf_173 rfl (by decide) (by decide) (retI (by unfold kindS; (repeat' split) <;> omega))
                        · refine x_iconst dX10_kindOf_168 (okI_c rfl) ?_
                          refine x_goto 173 dX10_kindOf_169 (by decide) ?_
                          exact x_ireturn dX10_kindOf_173 rfl (by decide) (by decide) (retI (by unfold kindS; (repeat' split) <;> omega))
                · refine x_iconst dX10_kindOf_128 (okI_c rfl) ?_
                  exact x_ireturn dX10_kindOf_129 rfl (by decide) (by decide) (retI (by unfold kindS; (repeat' split) <;> omega))
        · refine x_iload 2 dX10_kindOf_79 rfl ?_
          refine x_if_ne 92 dX10_kindOf_81 (by decide) (fun c_81 => ?_) (fun c_81 => ?_)
          · refine x_iload 1 dX10_kindOf_92 rfl ?_
            refine x_iconst dX10_kindOf_94 (okI_c rfl) ?_
            refine x_icmp_ne 130 dX10_kindOf_95 (by decide) (fun c_95 => ?_) (fun c_95 => ?_)
            · refine x_iload 1 dX10_kindOf_130 rfl ?_
              refine x_iconst dX10_kindOf_132 (okI_c rfl) ?_
              refine x_icmp_le 172 dX10_kindOf_133 (by decide) (fun c_133 => ?_) (fun c_133 => ?_)
              · refine x_iconst dX10_kindOf_172 (okI_c rfl) ?_
                exact x_ireturn dX10_kindOf_173 rfl (by decide) (by decide) (retI (by unfold kindS; (repeat' split) <;> omega))
              · refine x_iload 2 dX10_kindOf_136 rfl ?_
                refine x_if_ne 172 dX10_kindOf_138 (by decide) (fun c_138 => ?_) (fun c_138 => ?_)
                · refine x_iconst dX10_kindOf_172 (okI_c rfl) ?_
                  exact x_ireturn dX10_kindOf_173 rfl (by decide) (by decide) (retI (by unfold kindS; (repeat' split) <;> omega))
                · refine x_lload 0 dX10_kindOf_141 rfl ?_
                  refine x_lconst (x := 0) dX10_kindOf_143 (okJ_c rfl) rfl ?_
                  refine x_lc_le 172 dX10_kindOf_144 dX10_kindOf_145 (by decide) (fun c_144 => ?_) (fun c_144 => ?_)
                  · refine x_iconst dX10_kindOf_172 (okI_c rfl) ?_
                    exact x_ireturn dX10_kindOf_173 rfl (by decide) (by decide) (retI (by unfold kindS; (repeat' split) <;> omega))
                  · refine x_aload_n 4 dX10_kindOf_148 rfl rfl ?_
                    refine x_get 5 dX10_kindOf_149 fl_X10_23 hm rfl ?_
                    refine x_sipush dX10_kindOf_152 (okI_c rfl) (by decide +kernel) ?_
                    refine x_iload_n 5 dX10_kindOf_155 rfl rfl ?_
                    refine x_imul dX10_kindOf_156 (by unfold okI; omega) ?_
                    refine x_iload 1 dX10_kindOf_157 rfl ?_
                    refine x_iadd dX10_kindOf_159 (by unfold okI; omega) ?_
                    refine x_iconst dX10_kindOf_160 (okI_c rfl) ?_
                    refine x_isub dX10_kindOf_161 (by unfold okI; omega) ?_
                    refine x_laload dX10_kindOf_162 hb5 (by omega) (by omega) ?_
                    refine x_asJ (y := (A (D - 1).toNat)) (by have := eA (D - 1) (by omega) (by omega); rw [show 300 * f + (D - 1) = 300 * f + D - 1 by omega] at this; exact this) ?_
                    refine x_lconst (x := 0) dX10_kindOf_163 (okJ_c rfl) rfl ?_
                    refine x_lc_ne 172 dX10_kindOf_164 dX10_kindOf_165 (by decide) (fun c_164 => ?_) (fun c_164 => ?_)
                    · refine x_iconst dX10_kindOf_172 (okI_c rfl) ?_
                      exact x_ireturn dX10_kindOf_173 rfl (by decide) (by decide) (retI (by unfold kindS; (repeat' split) <;> omega))
                    · refine x_iconst dX10_kindOf_168 (okI_c rfl) ?_
                      refine x_goto 173 dX10_kindOf_169 (by decide) ?_
                      exact x_ireturn dX10_kindOf_173 rfl (by decide) (by decide) (retI (by unfold kindS; (repeat' split) <;> omega))
            · refine x_iload 2 dX10_kindOf_98 rfl ?_
              refine x_if_le 130 dX10_kindOf_100 (by decide) (fun c_100 => ?_) (fun c_100 => ?_)
              · refine x_iload 1 dX10_kindOf_130 rfl ?_
                refine x_iconst dX10_kindOf_132 (okI_c rfl) ?_
                refine x_icmp_le 172 dX10_kindOf_133 (by decide) (fun c_133 => ?_) (fun c_133 => ?_)
                · refine x_iconst dX10_kindOf_172 (okI_c rfl) ?_
                  exact x_ireturn dX10_kindOf_173 rfl (by decide) (by decide) (retI (by unfold kindS; (repeat' split) <;> omega))
                · refine x_iload 2 dX10_kindOf_136 rfl ?_
                  refine x_if_ne 172 dX10_kindOf_138 (by decide) (fun c_138 => ?_) (fun c_138 => ?_)
                  · refine x_iconst dX10_kindOf_172 (okI_c rfl) ?_
                    exact x_ireturn dX10_kindOf_173 rfl (by decide) (by decide) (retI (by unfold kindS; (repeat' split) <;> omega))
                  · refine x_lload 0 dX10_kindOf_141 rfl ?_
                    refine x_lconst (x := 0) dX10_kindOf_143 (okJ_c rfl) rfl ?_
                    refine x_lc_le 172 dX10_kindOf_144 dX10_kindOf_145 (by decide) (fun c_144 => ?_) (fun c_144 => ?_)
                    · refine x_iconst dX10_kindOf_172 (okI_c rfl) ?_
                      exact x_ireturn dX10_kindOf_173 rfl (by decide) (by decide) (retI (by unfold kindS; (repeat' split) <;> omega))
                    · refine x_aload_n 4 dX10_kindOf_148 rfl rfl ?_
                      refine x_get 5 dX10_kindOf_149 fl_X10_23 hm rfl ?_
                      refine x_sipush dX10_kindOf_152 (okI_c rfl) (by decide +kernel) ?_
                      refine x_iload_n 5 dX10_kindOf_155 rfl rfl ?_
                      refine x_imul dX10_kindOf_156 (by unfold okI; omega) ?_
                      refine x_iload 1 dX10_kindOf_157 rfl ?_
                      refine x_iadd dX10_kindOf_159 (by unfold okI; omega) ?_
                      refine x_iconst dX10_kindOf_160 (okI_c rfl) ?_
                      refine x_isub dX10_kindOf_161 (by unfold okI; omega) ?_
                      refine x_laload dX10_kindOf_162 hb5 (by omega) (by omega) ?_
                      refine x_asJ (y := (A (D - 1).toNat)) (by have := eA (D - 1) (by omega) (by omega); rw [show 300 * f + (D - 1) = 300 * f + D - 1 by omega] at this; exact this) ?_
                      refine x_lconst (x := 0) dX10_kindOf_163 (okJ_c rfl) rfl ?_
                      refine x_lc_ne 172 dX10_kindOf_164 dX10_kindOf_165 (by decide) (fun c_164 => ?_) (fun c_164 => ?_)
                      · refine x_iconst dX10_kindOf_172 (okI_c rfl) ?_
                        exact x_ireturn dX10_kindOf_173 rfl (by decide) (by decide) (retI (by unfold kindS; (repeat' split) <;> omega))
                      · refine x_iconst dX10_kindOf_168 (okI_c rfl) ?_
                        refine x_goto 173 dX10_kindOf_169 (by decide) ?_
                        exact x_ireturn dX10_kindOf_173 rfl (by decide) (by decide) (retI (by unfold kindS; (repeat' split) <;> omega))
              · refine x_lload 0 dX10_kindOf_103 rfl ?_
                refine x_lconst (x := 0) dX10_kindOf_105 (okJ_c rfl) rfl ?_
                refine x_lc_le 130 dX10_kindOf_106 dX10_kindOf_107 (by decide) (fun c_106 => ?_) (fun c_106 => ?_)
                · refine x_iload 1 dX10_kindOf_130 rfl ?_
                  refine x_iconst dX10_kindOf_132 (okI_c rfl) ?_
                  refine x_icmp_le 172 dX10_kindOf_133 (by decide) (fun c_133 => ?_) (fun c_133 => ?_)
                  · refine x_iconst dX10_kindOf_172 (okI_c rfl) ?_
                    exact x_ireturn dX10_kindOf_173 rfl (by decide) (by decide) (retI (by unfold kindS; (repeat' split) <;> omega))
                  · refine x_iload 2 dX10_kindOf_136 rfl ?_
                    refine x_if_ne 172 dX10_kindOf_138 (by decide) (fun c_138 => ?_) (fun c_138 => ?_)
                    · refine x_iconst dX10_kindOf_172 (okI_c rfl) ?_
                      exact x_ireturn dX10_kindOf_173 rfl (by decide) (by decide) (retI (by unfold kindS; (repeat' split) <;> omega))
                    · refine x_lload 0 dX10_kindOf_141 rfl ?_
                      refine x_lconst (x := 0) dX10_kindOf_143 (okJ_c rfl) rfl ?_
                      refine x_lc_le 172 dX10_kindOf_144 dX10_kindOf_145 (by decide) (fun c_144 => ?_) (fun c_144 => ?_)
                      · refine x_iconst dX10_kindOf_172 (okI_c rfl) ?_
                        exact x_ireturn dX10_kindOf_173 rfl (by decide) (by decide) (retI (by unfold kindS; (repeat' split) <;> omega))
                      · refine x_aload_n 4 dX10_kindOf_148 rfl rfl ?_
                        refine x_get 5 dX10_kindOf_149 fl_X10_23 hm rfl ?_
                        refine x_sipush dX10_kindOf_152 (okI_c rfl) (by decide +kernel) ?_
                        refine x_iload_n 5 dX10_kindOf_155 rfl rfl ?_
                        refine x_imul dX10_kindOf_156 (by unfold okI; omega) ?_
                        refine x_iload 1 dX10_kindOf_157 rfl ?_
                        refine x_iadd dX10_kindOf_159 (by unfold okI; omega) ?_
                        refine x_iconst dX10_kindOf_160 (okI_c rfl) ?_
                        refine x_isub dX10_kindOf_161 (by unfold okI; omega) ?_
                        refine x_laload dX10_kindOf_162 hb5 (by omega) (by omega) ?_
                        refine x_asJ (y := (A (D - 1).toNat)) (by have := eA (D - 1) (by omega) (by omega); rw [show 300 * f + (D - 1) = 300 * f + D - 1 by omega] at this; exact this) ?_
                        refine x_lconst (x := 0) dX10_kindOf_163 (okJ_c rfl) rfl ?_
                        refine x_lc_ne 172 dX10_kindOf_164 dX10_kindOf_165 (by decide) (fun c_164 => ?_) (fun c_164 => ?_)
                        · refine x_iconst dX10_kindOf_172 (okI_c rfl) ?_
                          exact x_ireturn dX10_kindOf_173 rfl (by decide) (by decide) (retI (by unfold kindS; (repeat' split) <;> omega))
                        · refine x_iconst dX10_kindOf_168 (okI_c rfl) ?_
                          refine x_goto 173 dX10_kindOf_169 (by decide) ?_
                          exact x_ireturn dX10_kindOf_173 rfl (by decide) (by decide) (retI (by unfold kindS; (repeat' split) <;> omega))
                · refine x_aload_n 4 dX10_kindOf_110 rfl rfl ?_
                  refine x_get 5 dX10_kindOf_111 fl_X10_23 hm rfl ?_
                  refine x_sipush dX10_kindOf_114 (okI_c rfl) (by decide +kernel) ?_
                  refine x_iload_n 5 dX10_kindOf_117 rfl rfl ?_
                  refine x_imul dX10_kindOf_118 (by unfold okI; omega) ?_
                  refine x_iload 2 dX10_kindOf_119 rfl ?_
                  refine x_iadd dX10_kindOf_121 (by unfold okI; omega) ?_
                  refine x_laload dX10_kindOf_122 hb5 (by omega) (by omega) ?_
                  refine x_asJ (y := (A T.toNat)) (eA T (by omega) (by omega)) ?_
                  refine x_lconst (x := 0) dX10_kindOf_123 (okJ_c rfl) rfl ?_
                  refine x_lc_ne 130 dX10_kindOf_124 dX10_kindOf_125 (by decide) (fun c_124 => ?_) (fun c_124 => ?_)
                  · refine x_iload 1 dX10_kindOf_130 rfl ?_
                    refine x_iconst dX10_kindOf_132 (okI_c rfl) ?_
                    refine x_icmp_le 172 dX10_kindOf_133 (by decide) (fun c_133 => ?_) (fun c_133 => ?_)
                    · refine x_iconst dX10_kindOf_172 (okI_c rfl) ?_
                      exact x_ireturn dX10_kindOf_173 rfl (by decide) (by decide) (retI (by unfold kindS; (repeat' split) <;> omega))
                    · refine x_iload 2 dX10_kindOf_136 rfl ?_
                      refine x_if_ne 172 dX10_kindOf_138 (by decide) (fun c_138 => ?_) (fun c_138 => ?_)
                      · refine x_iconst dX10_kindOf_172 (okI_c rfl) ?_
                        exact x_ireturn dX10_kindOf_173 rfl (by decide) (by decide) (retI (by unfold kindS; (repeat' split) <;> omega))
                      · refine x_lload 0 dX10_kindOf_141 rfl ?_
                        refine x_lconst (x := 0) dX10_kindOf_143 (okJ_c rfl) rfl ?_
                        refine x_lc_le 172 dX10_kindOf_144 dX10_kindOf_145 (by decide) (fun c_144 => ?_) (fun c_144 => ?_)
                        · refine x_iconst dX10_kindOf_172 (okI_c rfl) ?_
                          exact x_ireturn dX10_kindOf_173 rfl (by decide) (by decide) (retI (by unfold kindS; (repeat' split) <;> omega))
                        · refine x_aload_n 4 dX10_kindOf_148 rfl rfl ?_
                          refine x_get 5 dX10_kindOf_149 fl_X10_23 hm rfl ?_
                          refine x_sipush dX10_kindOf_152 (okI_c rfl) (by decide +kernel) ?_
                          refine x_iload_n 5 dX10_kindOf_155 rfl rfl ?_
                          refine x_imul dX10_kindOf_156 (by unfold okI; omega) ?_
                          refine x_iload 1 dX10_kindOf_157 rfl ?_
                          refine x_iadd dX10_kindOf_159 (by unfold okI; omega) ?_
                          refine x_iconst dX10_kindOf_160 (okI_c rfl) ?_
                          refine x_isub dX10_kindOf_161 (by unfold okI; omega) ?_
                          refine x_laload dX10_kindOf_162 hb5 (by omega) (by omega) ?_
                          refine x_asJ (y := (A (D - 1).toNat)) (by have := eA (D - 1) (by omega) (by omega); rw [show 300 * f + (D - 1) = 300 * f + D - 1 by omega] at this; exact this) ?_
                          refine x_lconst (x := 0) dX10_kindOf_163 (okJ_c rfl) rfl ?_
                          refine x_lc_ne 172 dX10_kindOf_164 dX10_kindOf_165 (by decide) (fun c_164 => ?_) (fun c_164 => ?_)
                          · refine x_iconst dX10_kindOf_172 (okI_c rfl) ?_
                            exact x_ireturn dX10_kindOf_173 rfl (by decide) (by decide) (retI (by unfold kindS; (repeat' split) <;> omega))
                          · refine x_iconst dX10_kindOf_168 (okI_c rfl) ?_
                            refine x_goto 173 dX10_kindOf_169 (by decide) ?_
                            exact x_ireturn dX10_kindOf_173 rfl (by decide) (by decide) (retI (by unfold kindS; (repeat' split) <;> omega))
                  · refine x_iconst dX10_kindOf_128 (okI_c rfl) ?_
                    exact x_ireturn dX10_kindOf_129 rfl (by decide) (by decide) (retI (by unfold kindS; (repeat' split) <;> omega))
          · refine x_lload_n 3 dX10_kindOf_84 rfl rfl ?_
            refine x_lconst (x := 0) dX10_kindOf_85 (okJ_c rfl) rfl ?_
            refine x_lc_ne 92 dX10_kindOf_86 dX10_kindOf_87 (by decide) (fun c_86 => ?_) (fun c_86 => ?_)
            · refine x_iload 1 dX10_kindOf_92 rfl ?_
              refine x_iconst dX10_kindOf_94 (okI_c rfl) ?_
              refine x_icmp_ne 130 dX10_kindOf_95 (by decide) (fun c_95 => ?_) (fun c_95 => ?_)
              · refine x_iload 1 dX10_kindOf_130 rfl ?_
                refine x_iconst dX10_kindOf_132 (okI_c rfl) ?_
                refine x_icmp_le 172 dX10_kindOf_133 (by decide) (fun c_133 => ?_) (fun c_133 => ?_)
                · refine x_iconst dX10_kindOf_172 (okI_c rfl) ?_
                  exact x_ireturn dX10_kindOf_173 rfl (by decide) (by decide) (retI (by unfold kindS; (repeat' split) <;> omega))
                · refine x_iload 2 dX10_kindOf_136 rfl ?_
                  refine x_if_ne 172 dX10_kindOf_138 (by decide) (fun c_138 => ?_) (fun c_138 => ?_)
                  · refine x_iconst dX10_kindOf_172 (okI_c rfl) ?_
                    exact x_ireturn dX10_kindOf_173 rfl (by decide) (by decide) (retI (by unfold kindS; (repeat' split) <;> omega))
                  · refine x_lload 0 dX10_kindOf_141 rfl ?_
                    refine x_lconst (x := 0) dX10_kindOf_143 (okJ_c rfl) rfl ?_
                    refine x_lc_le 172 dX10_kindOf_144 dX10_kindOf_145 (by decide) (fun c_144 => ?_) (fun c_144 => ?_)
                    · refine x_iconst dX10_kindOf_172 (okI_c rfl) ?_
                      exact x_ireturn dX10_kindOf_173 rfl (by decide) (by decide) (retI (by unfold kindS; (repeat' split) <;> omega))
                    · refine x_aload_n 4 dX10_kindOf_148 rfl rfl ?_
                      refine x_get 5 dX10_kindOf_149 fl_X10_23 hm rfl ?_
                      refine x_sipush dX10_kindOf_152 (okI_c rfl) (by decide +kernel) ?_
                      refine x_iload_n 5 dX10_kindOf_155 rfl rfl ?_
                      refine x_imul dX10_kindOf_156 (by unfold okI; omega) ?_
                      refine x_iload 1 dX10_kindOf_157 rfl ?_
                      refine x_iadd dX10_kindOf_159 (by unfold okI; omega) ?_
                      refine x_iconst dX10_kindOf_160 (okI_c rfl) ?_
                      refine x_isub dX10_kindOf_161 (by unfold okI; omega) ?_
                      refine x_laload dX10_kindOf_162 hb5 (by omega) (by omega) ?_
                      refine x_asJ (y := (A (D - 1).toNat)) (by have := eA (D - 1) (by omega) (by omega); rw [show 300 * f + (D - 1) = 300 * f + D - 1 by omega] at this; exact this) ?_
                      refine x_lconst (x := 0) dX10_kindOf_163 (okJ_c rfl) rfl ?_
                      refine x_lc_ne 172 dX10_kindOf_164 dX10_kindOf_165 (by decide) (fun c_164 => ?_) (fun c_164 => ?_)
                      · refine x_iconst dX10_kindOf_172 (okI_c rfl) ?_
                        exact x_ireturn dX10_kindOf_173 rfl (by decide) (by decide) (retI (by unfold kindS; (repeat' split) <;> omega))
                      · refine x_iconst dX10_kindOf_168 (okI_c rfl) ?_
                        refine x_goto 173 dX10_kindOf_169 (by decide) ?_
                        exact x_ireturn dX10_kindOf_173 rfl (by decide) (by decide) (retI (by unfold kindS; (repeat' split) <;> omega))
              · refine x_iload 2 dX10_kindOf_98 rfl ?_
                refine x_if_le 130 dX10_kindOf_100 (by decide) (fun c_100 => ?_) (fun c_100 => ?_)
                · refine x_iload 1 dX10_kindOf_130 rfl ?_
                  refine x_iconst dX10_kindOf_132 (okI_c rfl) ?_
                  refine x_icmp_le 172 dX10_kindOf_133 (by decide) (fun c_133 => ?_) (fun c_133 => ?_)
                  · refine x_iconst dX10_kindOf_172 (okI_c rfl) ?_
                    exact x_ireturn dX10_kindOf_173 rfl (by decide) (by decide) (retI (by unfold kindS; (repeat' split) <;> omega))
                  · refine x_iload 2 dX10_kindOf_136 rfl ?_
                    refine x_if_ne 172 dX10_kindOf_138 (by decide) (fun c_138 => ?_) (fun c_138 => ?_)
                    · refine x_iconst dX10_kindOf_172 (okI_c rfl) ?_
                      exact x_ireturn dX10_kindOf_173 rfl (by decide) (by decide) (retI (by unfold kindS; (repeat' split) <;> omega))
                    · refine x_lload 0 dX10_kindOf_141 rfl ?_
                      refine x_lconst (x := 0) dX10_kindOf_143 (okJ_c rfl) rfl ?_
                      refine x_lc_le 172 dX10_kindOf_144 dX10_kindOf_145 (by decide) (fun c_144 => ?_) (fun c_144 => ?_)
                      · refine x_iconst dX10_kindOf_172 (okI_c rfl) ?_
                        exact x_ireturn dX10_kindOf_173 rfl (by decide) (by decide) (retI (by unfold kindS; (repeat' split) <;> omega))
                      · refine x_aload_n 4 dX10_kindOf_148 rfl rfl ?_
                        refine x_get 5 dX10_kindOf_149 fl_X10_23 hm rfl ?_
                        refine x_sipush dX10_kindOf_152 (okI_c rfl) (by decide +kernel) ?_
                        refine x_iload_n 5 dX10_kindOf_155 rfl rfl ?_
                        refine x_imul dX10_kindOf_156 (by unfold okI; omega) ?_
                        refine x_iload 1 dX10_kindOf_157 rfl ?_
                        refine x_iadd dX10_kindOf_159 (by unfold okI; omega) ?_
                        refine x_iconst dX10_kindOf_160 (okI_c rfl) ?_
                        refine x_isub dX10_kindOf_161 (by unfold okI; omega) ?_
                        refine x_laload dX10_kindOf_162 hb5 (by omega) (by omega) ?_
                        refine x_asJ (y := (A (D - 1).toNat)) (by have := eA (D - 1) (by omega) (by omega); rw [show 300 * f + (D - 1) = 300 * f + D - 1 by omega] at this; exact this) ?_
                        refine x_lconst (x := 0) dX10_kindOf_163 (okJ_c rfl) rfl ?_
                        refine x_lc_ne 172 dX10_kindOf_164 dX10_kindOf_165 (by decide) (fun c_164 => ?_) (fun c_164 => ?_)
                        · refine x_iconst dX10_kindOf_172 (okI_c rfl) ?_
                          exact x_ireturn dX10_kindOf_173 rfl (by decide) (by decide) (retI (by unfold kindS; (repeat' split) <;> omega))
                        · refine x_iconst dX10_kindOf_168 (okI_c rfl) ?_
                          refine x_goto 173 dX10_kindOf_169 (by decide) ?_
                          exact x_ireturn dX10_kindOf_173 rfl (by decide) (by decide) (retI (by unfold kindS; (repeat' split) <;> omega))
                · refine x_lload 0 dX10_kindOf_103 rfl ?_
                  refine x_lconst (x := 0) dX10_kindOf_105 (okJ_c rfl) rfl ?_
                  refine x_lc_le 130 dX10_kindOf_106 dX10_kindOf_107 (by decide) (fun c_106 => ?_) (fun c_106 => ?_)
                  · refine x_iload 1 dX10_kindOf_130 rfl ?_
                    refine x_iconst dX10_kindOf_132 (okI_c rfl) ?_
                    refine x_icmp_le 172 dX10_kindOf_133 (by decide) (fun c_133 => ?_) (fun c_133 => ?_)
                    · refine x_iconst dX10_kindOf_172 (okI_c rfl) ?_
                      exact x_ireturn dX10_kindOf_173 rfl (by decide) (by decide) (retI (by unfold kindS; (repeat' split) <;> omega))
                    · refine x_iload 2 dX10_kindOf_136 rfl ?_
                      refine x_if_ne 172 dX10_kindOf_138 (by decide) (fun c_138 => ?_) (fun c_138 => ?_)
                      · refine x_iconst dX10_kindOf_172 (okI_c rfl) ?_
                        exact x_ireturn dX10_kindOf_173 rfl (by decide) (by decide) (retI (by unfold kindS; (repeat' split) <;> omega))
                      · refine x_lload 0 dX10_kindOf_141 rfl ?_
                        refine x_lconst (x := 0) dX10_kindOf_143 (okJ_c rfl) rfl ?_
                        refine x_lc_le 172 dX10_kindOf_144 dX10_kindOf_145 (by decide) (fun c_144 => ?_) (fun c_144 => ?_)
                        · refine x_iconst dX10_kindOf_172 (okI_c rfl) ?_
                          exact x_ireturn dX10_kindOf_173 rfl (by decide) (by decide) (retI (by unfold kindS; (repeat' split) <;> omega))
                        · refine x_aload_n 4 dX10_kindOf_148 rfl rfl ?_
                          refine x_get 5 dX10_kindOf_149 fl_X10_23 hm rfl ?_
                          refine x_sipush dX10_kindOf_152 (okI_c rfl) (by decide +kernel) ?_
                          refine x_iload_n 5 dX10_kindOf_155 rfl rfl ?_
                          refine x_imul dX10_kindOf_156 (by unfold okI; omega) ?_
                          refine x_iload 1 dX10_kindOf_157 rfl ?_
                          refine x_iadd dX10_kindOf_159 (by unfold okI; omega) ?_
                          refine x_iconst dX10_kindOf_160 (okI_c rfl) ?_
                          refine x_isub dX10_kindOf_161 (by unfold okI; omega) ?_
                          refine x_laload dX10_kindOf_162 hb5 (by omega) (by omega) ?_
                          refine x_asJ (y := (A (D - 1).toNat)) (by have := eA (D - 1) (by omega) (by omega); rw [show 300 * f + (D - 1) = 300 * f + D - 1 by omega] at this; exact this) ?_
                          refine x_lconst (x := 0) dX10_kindOf_163 (okJ_c rfl) rfl ?_
                          refine x_lc_ne 172 dX10_kindOf_164 dX10_kindOf_165 (by decide) (fun c_164 => ?_) (fun c_164 => ?_)
                          · refine x_iconst dX10_kindOf_172 (okI_c rfl) ?_
                            exact x_ireturn dX10_kindOf_173 rfl (by decide) (by decide) (retI (by unfold kindS; (repeat' split) <;> omega))
                          · refine x_iconst dX10_kindOf_168 (okI_c rfl) ?_
                            refine x_goto 173 dX10_kindOf_169 (by decide) ?_
                            exact x_ireturn dX10_kindOf_173 rfl (by decide) (by decide) (retI (by unfold kindS; (repeat' split) <;> omega))
                  · refine x_aload_n 4 dX10_kindOf_110 rfl rfl ?_
                    refine x_get 5 dX10_kindOf_111 fl_X10_23 hm rfl ?_
                    refine x_sipush dX10_kindOf_114 (okI_c rfl) (by decide +kernel) ?_
                    refine x_iload_n 5 dX10_kindOf_117 rfl rfl ?_
                    refine x_imul dX10_kindOf_118 (by unfold okI; omega) ?_
                    refine x_iload 2 dX10_kindOf_119 rfl ?_
                    refine x_iadd dX10_kindOf_121 (by unfold okI; omega) ?_
                    refine x_laload dX10_kindOf_122 hb5 (by omega) (by omega) ?_
                    refine x_asJ (y := (A T.toNat)) (eA T (by omega) (by omega)) ?_
                    refine x_lconst (x := 0) dX10_kindOf_123 (okJ_c rfl) rfl ?_
                    refine x_lc_ne 130 dX10_kindOf_124 dX10_kindOf_125 (by decide) (fun c_124 => ?_) (fun c_124 => ?_)
                    · refine x_iload 1 dX10_kindOf_130 rfl ?_
                      refine x_iconst dX10_kindOf_132 (okI_c rfl) ?_
                      refine x_icmp_le 172 dX10_kindOf_133 (by decide) (fun c_133 => ?_) (fun c_133 => ?_)
                      · refine x_iconst dX10_kindOf_172 (okI_c rfl) ?_
                        exact x_ireturn dX10_kindOf_173 rfl (by decide) (by decide) (retI (by unfold kindS; (repeat' split) <;> omega))
                      · refine x_iload 2 dX10_kindOf_136 rfl ?_
                        refine x_if_ne 172 dX10_kindOf_138 (by decide) (fun c_138 => ?_) (fun c_138 => ?_)
                        · refine x_iconst dX10_kindOf_172 (okI_c rfl) ?_
                          exact x_ireturn dX10_kindOf_173 rfl (by decide) (by decide) (retI (by unfold kindS; (repeat' split) <;> omega))
                        · refine x_lload 0 dX10_kindOf_141 rfl ?_
                          refine x_lconst (x := 0) dX10_kindOf_143 (okJ_c rfl) rfl ?_
                          refine x_lc_le 172 dX10_kindOf_144 dX10_kindOf_145 (by decide) (fun c_144 => ?_) (fun c_144 => ?_)
                          · refine x_iconst dX10_kindOf_172 (okI_c rfl) ?_
                            exact x_ireturn dX10_kindOf_173 rfl (by decide) (by decide) (retI (by unfold kindS; (repeat' split) <;> omega))
                          · refine x_aload_n 4 dX10_kindOf_148 rfl rfl ?_
                            refine x_get 5 dX10_kindOf_149 fl_X10_23 hm rfl ?_
                            refine x_sipush dX10_kindOf_152 (okI_c rfl) (by decide +kernel) ?_
                            refine x_iload_n 5 dX10_kindOf_155 rfl rfl ?_
                            refine x_imul dX10_kindOf_156 (by unfold okI; omega) ?_
                            refine x_iload 1 dX10_kindOf_157 rfl ?_
                            refine x_iadd dX10_kindOf_159 (by unfold okI; omega) ?_
                            refine x_iconst dX10_kindOf_160 (okI_c rfl) ?_
                            refine x_isub dX10_kindOf_161 (by unfold okI; omega) ?_
                            refine x_laload dX10_kindOf_162 hb5 (by omega) (by omega) ?_
                            refine x_asJ (y := (A (D - 1).toNat)) (by have := eA (D - 1) (by omega) (by omega); rw [show 300 * f + (D - 1) = 300 * f + D - 1 by omega] at this; exact this) ?_
                            refine x_lconst (x := 0) dX10_kindOf_163 (okJ_c rfl) rfl ?_
                            refine x_lc_ne 172 dX10_kindOf_164 dX10_kindOf_165 (by decide) (fun c_164 => ?_) (fun c_164 => ?_)
                            · refine x_iconst dX10_kindOf_172 (okI_c rfl) ?_
                              exact x_ireturn dX10_kindOf_173 rfl (by decide) (by decide) (retI (by unfold kindS; (repeat' split) <;> omega))
                            · refine x_iconst dX10_kindOf_168 (okI_c rfl) ?_
                              refine x_goto 173 dX10_kindOf_169 (by decide) ?_
                              exact x_ireturn dX10_kindOf_173 rfl (by decide) (by decide) (retI (by unfold kindS; (repeat' split) <;> omega))
                    · refine x_iconst dX10_kindOf_128 (okI_c rfl) ?_
                      exact x_ireturn dX10_kindOf_129 rfl (by decide) (by decide) (retI (by unfold kindS; (repeat' split) <;> omega))
            · refine x_iconst dX10_kindOf_90 (okI_c rfl) ?_
              exact x_ireturn dX10_kindOf_91 rfl (by decide) (by decide) (retI (by unfold kindS; (repeat' split) <;> omega))
      · refine x_aload_n 4 dX10_kindOf_53 rfl rfl ?_
        refine x_get 5 dX10_kindOf_54 fl_X10_23 hm rfl ?_
        refine x_sipush dX10_kindOf_57 (okI_c rfl) (by decide +kernel) ?_
        refine x_iload_n 5 dX10_kindOf_60 rfl rfl ?_
        refine x_imul dX10_kindOf_61 (by unfold okI; omega) ?_
        refine x_iconst dX10_kindOf_62 (okI_c rfl) ?_
        refine x_iadd dX10_kindOf_63 (by unfold okI; omega) ?_
        refine x_laload dX10_kindOf_64 hb5 (by omega) (by omega) ?_
        refine x_asJ (y := (A 1)) (eA 1 (by omega) (by omega)) ?_
        refine x_lload 0 dX10_kindOf_65 rfl ?_
        refine x_lc_le 73 dX10_kindOf_67 dX10_kindOf_68 (by decide) (fun c_67 => ?_) (fun c_67 => ?_)
        · refine x_iload 1 dX10_kindOf_73 rfl ?_
          refine x_iconst dX10_kindOf_75 (okI_c rfl) ?_
          refine x_icmp_ne 92 dX10_kindOf_76 (by decide) (fun c_76 => ?_) (fun c_76 => ?_)
          · refine x_iload 1 dX10_kindOf_92 rfl ?_
            refine x_iconst dX10_kindOf_94 (okI_c rfl) ?_
            refine x_icmp_ne 130 dX10_kindOf_95 (by decide) (fun c_95 => ?_) (fun c_95 => ?_)
            · refine x_iload 1 dX10_kindOf_130 rfl ?_
              refine x_iconst dX10_kindOf_132 (okI_c rfl) ?_
              refine x_icmp_le 172 dX10_kindOf_133 (by decide) (fun c_133 => ?_) (fun c_133 => ?_)
              · refine x_iconst dX10_kindOf_172 (okI_c rfl) ?_
                exact x_ireturn dX10_kindOf_173 rfl (by decide) (by decide) (retI (by unfold kindS; (repeat' split) <;> omega))
              · refine x_iload 2 dX10_kindOf_136 rfl ?_
                refine x_if_ne 172 dX10_kindOf_138 (by decide) (fun c_138 => ?_) (fun c_138 => ?_)
                · refine x_iconst dX10_kindOf_172 (okI_c rfl) ?_
                  exact x_ireturn dX10_kindOf_173 rfl (by decide) (by decide) (retI (by unfold kindS; (repeat' split) <;> omega))
                · refine x_lload 0 dX10_kindOf_141 rfl ?_
                  refine x_lconst (x := 0) dX10_kindOf_143 (okJ_c rfl) rfl ?_
                  refine x_lc_le 172 dX10_kindOf_144 dX10_kindOf_145 (by decide) (fun c_144 => ?_) (fun c_144 => ?_)
                  · refine x_iconst dX10_kindOf_172 (okI_c rfl) ?_
                    exact x_ireturn dX10_kindOf_173 rfl (by decide) (by decide) (retI (by unfold kindS; (repeat' split) <;> omega))
                  · refine x_aload_n 4 dX10_kindOf_148 rfl rfl ?_
                    refine x_get 5 dX10_kindOf_149 fl_X10_23 hm rfl ?_
                    refine x_sipush dX10_kindOf_152 (okI_c rfl) (by decide +kernel) ?_
                    refine x_iload_n 5 dX10_kindOf_155 rfl rfl ?_
                    refine x_imul dX10_kindOf_156 (by unfold okI; omega) ?_
                    refine x_iload 1 dX10_kindOf_157 rfl ?_
                    refine x_iadd dX10_kindOf_159 (by unfold okI; omega) ?_
                    refine x_iconst dX10_kindOf_160 (okI_c rfl) ?_
                    refine x_isub dX10_kindOf_161 (by unfold okI; omega) ?_
                    refine x_laload dX10_kindOf_162 hb5 (by omega) (by omega) ?_
                    refine x_asJ (y := (A (D - 1).toNat)) (by have := eA (D - 1) (by omega) (by omega); rw [show 300 * f + (D - 1) = 300 * f + D - 1 by omega] at this; exact this) ?_
                    refine x_lconst (x := 0) dX10_kindOf_163 (okJ_c rfl) rfl ?_
                    refine x_lc_ne 172 dX10_kindOf_164 dX10_kindOf_165 (by decide) (fun c_164 => ?_) (fun c_164 => ?_)
                    · refine x_iconst dX10_kindOf_172 (okI_c rfl) ?_
                      exact x_ireturn dX10_kindOf_173 rfl (by decide) (by decide) (retI (by unfold kindS; (repeat' split) <;> omega))
                    · refine x_iconst dX10_kindOf_168 (okI_c rfl) ?_
                      refine x_goto 173 dX10_kindOf_169 (by decide) ?_
                      exact x_ireturn dX10_kindOf_173 rfl (by decide) (by decide) (retI (by unfold kindS; (repeat' split) <;> omega))
            · refine x_iload 2 dX10_kindOf_98 rfl ?_
              refine x_if_le 130 dX10_kindOf_100 (by decide) (fun c_100 => ?_) (fun c_100 => ?_)
              · refine x_iload 1 dX10_kindOf_130 rfl ?_
                refine x_iconst dX10_kindOf_132 (okI_c rfl) ?_
                refine x_icmp_le 172 dX10_kindOf_133 (by decide) (fun c_133 => ?_) (fun c_133 => ?_)
                · refine x_iconst dX10_kindOf_172 (okI_c rfl) ?_
                  exact x_ireturn dX10_kindOf_173 rfl (by decide) (by decide) (retI (by unfold kindS; (repeat' split) <;> omega))
                · refine x_iload 2 dX10_kindOf_136 rfl ?_
                  refine x_if_ne 172 dX10_kindOf_138 (by decide) (fun c_138 => ?_) (fun c_138 => ?_)
                  · refine x_iconst dX10_kindOf_172 (okI_c rfl) ?_
                    exact x_ireturn dX10_kindOf_173 rfl (by decide) (by decide) (retI (by unfold kindS; (repeat' split) <;> omega))
                  · refine x_lload 0 dX10_kindOf_141 rfl ?_
                    refine x_lconst (x := 0) dX10_kindOf_143 (okJ_c rfl) rfl ?_
                    refine x_lc_le 172 dX10_kindOf_144 dX10_kindOf_145 (by decide) (fun c_144 => ?_) (fun c_144 => ?_)
                    · refine x_iconst dX10_kindOf_172 (okI_c rfl) ?_
                      exact x_ireturn dX10_kindOf_173 rfl (by decide) (by decide) (retI (by unfold kindS; (repeat' split) <;> omega))
                    · refine x_aload_n 4 dX10_kindOf_148 rfl rfl ?_
                      refine x_get 5 dX10_kindOf_149 fl_X10_23 hm rfl ?_
                      refine x_sipush dX10_kindOf_152 (okI_c rfl) (by decide +kernel) ?_
                      refine x_iload_n 5 dX10_kindOf_155 rfl rfl ?_
                      refine x_imul dX10_kindOf_156 (by unfold okI; omega) ?_
                      refine x_iload 1 dX10_kindOf_157 rfl ?_
                      refine x_iadd dX10_kindOf_159 (by unfold okI; omega) ?_
                      refine x_iconst dX10_kindOf_160 (okI_c rfl) ?_
                      refine x_isub dX10_kindOf_161 (by unfold okI; omega) ?_
                      refine x_laload dX10_kindOf_162 hb5 (by omega) (by omega) ?_
                      refine x_asJ (y := (A (D - 1).toNat)) (by have := eA (D - 1) (by omega) (by omega); rw [show 300 * f + (D - 1) = 300 * f + D - 1 by omega] at this; exact this) ?_
                      refine x_lconst (x := 0) dX10_kindOf_163 (okJ_c rfl) rfl ?_
                      refine x_lc_ne 172 dX10_kindOf_164 dX10_kindOf_165 (by decide) (fun c_164 => ?_) (fun c_164 => ?_)
                      · refine x_iconst dX10_kindOf_172 (okI_c rfl) ?_
                        exact x_ireturn dX10_kindOf_173 rfl (by decide) (by decide) (retI (by unfold kindS; (repeat' split) <;> omega))
                      · refine x_iconst dX10_kindOf_168 (okI_c rfl) ?_
                        refine x_goto 173 dX10_kindOf_169 (by decide) ?_
                        exact x_ireturn dX10_kindOf_173 rfl (by decide) (by decide) (retI (by unfold kindS; (repeat' split) <;> omega))
              · refine x_lload 0 dX10_kindOf_103 rfl ?_
                refine x_lconst (x := 0) dX10_kindOf_105 (okJ_c rfl) rfl ?_
                refine x_lc_le 130 dX10_kindOf_106 dX10_kindOf_107 (by decide) (fun c_106 => ?_) (fun c_106 => ?_)
                · refine x_iload 1 dX10_kindOf_130 rfl ?_
                  refine x_iconst dX10_kindOf_132 (okI_c rfl) ?_
                  refine x_icmp_le 172 dX10_kindOf_133 (by decide) (fun c_133 => ?_) (fun c_133 => ?_)
                  · refine x_iconst dX10_kindOf_172 (okI_c rfl) ?_
                    exact x_ireturn dX10_kindOf_173 rfl (by decide) (by decide) (retI (by unfold kindS; (repeat' split) <;> omega))
                  · refine x_iload 2 dX10_kindOf_136 rfl ?_
                    refine x_if_ne 172 dX10_kindOf_138 (by decide) (fun c_138 => ?_) (fun c_138 => ?_)
                    · refine x_iconst dX10_kindOf_172 (okI_c rfl) ?_
                      exact x_ireturn dX10_kindOf_173 rfl (by decide) (by decide) (retI (by unfold kindS; (repeat' split) <;> omega))
                    · refine x_lload 0 dX10_kindOf_141 rfl ?_
                      refine x_lconst (x := 0) dX10_kindOf_143 (okJ_c rfl) rfl ?_
                      refine x_lc_le 172 dX10_kindOf_144 dX10_kindOf_145 (by decide) (fun c_144 => ?_) (fun c_144 => ?_)
                      · refine x_iconst dX10_kindOf_172 (okI_c rfl) ?_
                        exact x_ireturn dX10_kindOf_173 rfl (by decide) (by decide) (retI (by unfold kindS; (repeat' split) <;> omega))
                      · refine x_aload_n 4 dX10_kindOf_148 rfl rfl ?_
                        refine x_get 5 dX10_kindOf_149 fl_X10_23 hm rfl ?_
                        refine x_sipush dX10_kindOf_152 (okI_c rfl) (by decide +kernel) ?_
                        refine x_iload_n 5 dX10_kindOf_155 rfl rfl ?_
                        refine x_imul dX10_kindOf_156 (by unfold okI; omega) ?_
                        refine x_iload 1 dX10_kindOf_157 rfl ?_
                        refine x_iadd dX10_kindOf_159 (by unfold okI; omega) ?_
                        refine x_iconst dX10_kindOf_160 (okI_c rfl) ?_
                        refine x_isub dX10_kindOf_161 (by unfold okI; omega) ?_
                        refine x_laload dX10_kindOf_162 hb5 (by omega) (by omega) ?_
                        refine x_asJ (y := (A (D - 1).toNat)) (by have := eA (D - 1) (by omega) (by omega); rw [show 300 * f + (D - 1) = 300 * f + D - 1 by omega] at this; exact this) ?_
                        refine x_lconst (x := 0) dX10_kindOf_163 (okJ_c rfl) rfl ?_
                        refine x_lc_ne 172 dX10_kindOf_164 dX10_kindOf_165 (by decide) (fun c_164 => ?_) (fun c_164 => ?_)
                        · refine x_iconst dX10_kindOf_172 (okI_c rfl) ?_
                          exact x_ireturn dX10_kindOf_173 rfl (by decide) (by decide) (retI (by unfold kindS; (repeat' split) <;> omega))
                        · refine x_iconst dX10_kindOf_168 (okI_c rfl) ?_
                          refine x_goto 173 dX10_kindOf_169 (by decide) ?_
                          exact x_ireturn dX10_kindOf_173 rfl (by decide) (by decide) (retI (by unfold kindS; (repeat' split) <;> omega))
                · refine x_aload_n 4 dX10_kindOf_110 rfl rfl ?_
                  refine x_get 5 dX10_kindOf_111 fl_X10_23 hm rfl ?_
                  refine x_sipush dX10_kindOf_114 (okI_c rfl) (by decide +kernel) ?_
                  refine x_iload_n 5 dX10_kindOf_117 rfl rfl ?_
                  refine x_imul dX10_kindOf_118 (by unfold okI; omega) ?_
                  refine x_iload 2 dX10_kindOf_119 rfl ?_
                  refine x_iadd dX10_kindOf_121 (by unfold okI; omega) ?_
                  refine x_laload dX10_kindOf_122 hb5 (by omega) (by omega) ?_
                  refine x_asJ (y := (A T.toNat)) (eA T (by omega) (by omega)) ?_
                  refine x_lconst (x := 0) dX10_kindOf_123 (okJ_c rfl) rfl ?_
                  refine x_lc_ne 130 dX10_kindOf_124 dX10_kindOf_125 (by decide) (fun c_124 => ?_) (fun c_124 => ?_)
                  · refine x_iload 1 dX10_kindOf_130 rfl ?_
                    refine x_iconst dX10_kindOf_132 (okI_c rfl) ?_
                    refine x_icmp_le 172 dX10_kindOf_133 (by decide) (fun c_133 => ?_) (fun c_133 => ?_)
                    · refine x_iconst dX10_kindOf_172 (okI_c rfl) ?_
                      exact x_ireturn dX10_kindOf_173 rfl (by decide) (by decide) (retI (by unfold kindS; (repeat' split) <;> omega))
                    · refine x_iload 2 dX10_kindOf_136 rfl ?_
                      refine x_if_ne 172 dX10_kindOf_138 (by decide) (fun c_138 => ?_) (fun c_138 => ?_)
                      · refine x_iconst dX10_kindOf_172 (okI_c rfl) ?_
                        exact x_ireturn dX10_kindOf_173 rfl (by decide) (by decide) (retI (by unfold kindS; (repeat' split) <;> omega))
                      · refine x_lload 0 dX10_kindOf_141 rfl ?_
                        refine x_lconst (x := 0) dX10_kindOf_143 (okJ_c rfl) rfl ?_
                        refine x_lc_le 172 dX10_kindOf_144 dX10_kindOf_145 (by decide) (fun c_144 => ?_) (fun c_144 => ?_)
                        · refine x_iconst dX10_kindOf_172 (okI_c rfl) ?_
                          exact x_ireturn dX10_kindOf_173 rfl (by decide) (by decide) (retI (by unfold kindS; (repeat' split) <;> omega))
                        · refine x_aload_n 4 dX10_kindOf_148 rfl rfl ?_
                          refine x_get 5 dX10_kindOf_149 fl_X10_23 hm rfl ?_
                          refine x_sipush dX10_kindOf_152 (okI_c rfl) (by decide +kernel) ?_
                          refine x_iload_n 5 dX10_kindOf_155 rfl rfl ?_
                          refine x_imul dX10_kindOf_156 (by unfold okI; omega) ?_
                          refine x_iload 1 dX10_kindOf_157 rfl ?_
                          refine x_iadd dX10_kindOf_159 (by unfold okI; omega) ?_
                          refine x_iconst dX10_kindOf_160 (okI_c rfl) ?_
                          refine x_isub dX10_kindOf_161 (by unfold okI; omega) ?_
                          refine x_laload dX10_kindOf_162 hb5 (by omega) (by omega) ?_
                          refine x_asJ (y := (A (D - 1).toNat)) (by have := eA (D - 1) (by omega) (by omega); rw [show 300 * f + (D - 1) = 300 * f + D - 1 by omega] at this; exact this) ?_
                          refine x_lconst (x := 0) dX10_kindOf_163 (okJ_c rfl) rfl ?_
                          refine x_lc_ne 172 dX10_kindOf_164 dX10_kindOf_165 (by decide) (fun c_164 => ?_) (fun c_164 => ?_)
                          · refine x_iconst dX10_kindOf_172 (okI_c rfl) ?_
                            exact x_ireturn dX10_kindOf_173 rfl (by decide) (by decide) (retI (by unfold kindS; (repeat' split) <;> omega))
                          · refine x_iconst dX10_kindOf_168 (okI_c rfl) ?_
                            refine x_goto 173 dX10_kindOf_169 (by decide) ?_
                            exact x_ireturn dX10_kindOf_173 rfl (by decide) (by decide) (retI (by unfold kindS; (repeat' split) <;> omega))
                  · refine x_iconst dX10_kindOf_128 (okI_c rfl) ?_
                    exact x_ireturn dX10_kindOf_129 rfl (by decide) (by decide) (retI (by unfold kindS; (repeat' split) <;> omega))
          · refine x_iload 2 dX10_kindOf_79 rfl ?_
            refine x_if_ne 92 dX10_kindOf_81 (by decide) (fun c_81 => ?_) (fun c_81 => ?_)
            · refine x_iload 1 dX10_kindOf_92 rfl ?_
              refine x_iconst dX10_kindOf_94 (okI_c rfl) ?_
              refine x_icmp_ne 130 dX10_kindOf_95 (by decide) (fun c_95 => ?_) (fun c_95 => ?_)
              · refine x_iload 1 dX10_kindOf_130 rfl ?_
                refine x_iconst dX10_kindOf_132 (okI_c rfl) ?_
                refine x_icmp_le 172 dX10_kindOf_133 (by decide) (fun c_133 => ?_) (fun c_133 => ?_)
                · refine x_iconst dX10_kindOf_172 (okI_c rfl) ?_
                  exact x_ireturn dX10_kindOf_173 rfl (by decide) (by decide) (retI (by unfold kindS; (repeat' split) <;> omega))
                · refine x_iload 2 dX10_kindOf_136 rfl ?_
                  refine x_if_ne 172 dX10_kindOf_138 (by decide) (fun c_138 => ?_) (fun c_138 => ?_)
                  · refine x_iconst dX10_kindOf_172 (okI_c rfl) ?_
                    exact x_ireturn dX10_kindOf_173 rfl (by decide) (by decide) (retI (by unfold kindS; (repeat' split) <;> omega))
                  · refine x_lload 0 dX10_kindOf_141 rfl ?_
                    refine x_lconst (x := 0) dX10_kindOf_143 (okJ_c rfl) rfl ?_
                    refine x_lc_le 172 dX10_kindOf_144 dX10_kindOf_145 (by decide) (fun c_144 => ?_) (fun c_144 => ?_)
                    · refine x_iconst dX10_kindOf_172 (okI_c rfl) ?_
                      exact x_ireturn dX10_kindOf_173 rfl (by decide) (by decide) (retI (by unfold kindS; (repeat' split) <;> omega))
                    · refine x_aload_n 4 dX10_kindOf_148 rfl rfl ?_
                      refine x_get 5 dX10_kindOf_149 fl_X10_23 hm rfl ?_
                      refine x_sipush dX10_kindOf_152 (okI_c rfl) (by decide +kernel) ?_
                      refine x_iload_n 5 dX10_kindOf_155 rfl rfl ?_
                      refine x_imul dX10_kindOf_156 (by unfold okI; omega) ?_
                      refine x_iload 1 dX10_kindOf_157 rfl ?_
                      refine x_iadd dX10_kindOf_159 (by unfold okI; omega) ?_
                      refine x_iconst dX10_kindOf_160 (okI_c rfl) ?_
                      refine x_isub dX10_kindOf_161 (by unfold okI; omega) ?_
                      refine x_laload dX10_kindOf_162 hb5 (by omega) (by omega) ?_
                      refine x_asJ (y := (A (D - 1).toNat)) (by have := eA (D - 1) (by omega) (by omega); rw [show 300 * f + (D - 1) = 300 * f + D - 1 by omega] at this; exact this) ?_
                      refine x_lconst (x := 0) dX10_kindOf_163 (okJ_c rfl) rfl ?_
                      refine x_lc_ne 172 dX10_kindOf_164 dX10_kindOf_165 (by decide) (fun c_164 => ?_) (fun c_164 => ?_)
                      · refine x_iconst dX10_kindOf_172 (okI_c rfl) ?_
                        exact x_ireturn dX10_kindOf_173 rfl (by decide) (by decide) (retI (by unfold kindS; (repeat' split) <;> omega))
                      · refine x_iconst dX10_kindOf_168 (okI_c rfl) ?_
                        refine x_goto 173 dX10_kindOf_169 (by decide) ?_
                        exact x_ireturn dX10_kindOf_173 rfl (by decide) (by decide) (retI (by unfold kindS; (repeat' split) <;> omega))
              · refine x_iload 2 dX10_kindOf_98 rfl ?_
                refine x_if_le 130 dX10_kindOf_100 (by decide) (fun c_100 => ?_) (fun c_100 => ?_)
                · refine x_iload 1 dX10_kindOf_130 rfl ?_
                  refine x_iconst dX10_kindOf_132 (okI_c rfl) ?_
                  refine x_icmp_le 172 dX10_kindOf_133 (by decide) (fun c_133 => ?_) (fun c_133 => ?_)
                  · refine x_iconst dX10_kindOf_172 (okI_c rfl) ?_
                    exact x_ireturn dX10_kindOf_173 rfl (by decide) (by decide) (retI (by unfold kindS; (repeat' split) <;> omega))
                  · refine x_iload 2 dX10_kindOf_136 rfl ?_
                    refine x_if_ne 172 dX10_kindOf_138 (by decide) (fun c_138 => ?_) (fun c_138 => ?_)
                    · refine x_iconst dX10_kindOf_172 (okI_c rfl) ?_
                      exact x_ireturn dX10_kindOf_173 rfl (by decide) (by decide) (retI (by unfold kindS; (repeat' split) <;> omega))
                    · refine x_lload 0 dX10_kindOf_141 rfl ?_
                      refine x_lconst (x := 0) dX10_kindOf_143 (okJ_c rfl) rfl ?_
                      refine x_lc_le 172 dX10_kindOf_144 dX10_kindOf_145 (by decide) (fun c_144 => ?_) (fun c_144 => ?_)
                      · refine x_iconst dX10_kindOf_172 (okI_c rfl) ?_
                        exact x_ireturn dX10_kindOf_173 rfl (by decide) (by decide) (retI (by unfold kindS; (repeat' split) <;> omega))
                      · refine x_aload_n 4 dX10_kindOf_148 rfl rfl ?_
                        refine x_get 5 dX10_kindOf_149 fl_X10_23 hm rfl ?_
                        refine x_sipush dX10_kindOf_152 (okI_c rfl) (by decide +kernel) ?_
                        refine x_iload_n 5 dX10_kindOf_155 rfl rfl ?_
                        refine x_imul dX10_kindOf_156 (by unfold okI; omega) ?_
                        refine x_iload 1 dX10_kindOf_157 rfl ?_
                        refine x_iadd dX10_kindOf_159 (by unfold okI; omega) ?_
                        refine x_iconst dX10_kindOf_160 (okI_c rfl) ?_
                        refine x_isub dX10_kindOf_161 (by unfold okI; omega) ?_
                        refine x_laload dX10_kindOf_162 hb5 (by omega) (by omega) ?_
                        refine x_asJ (y := (A (D - 1).toNat)) (by have := eA (D - 1) (by omega) (by omega); rw [show 300 * f + (D - 1) = 300 * f + D - 1 by omega] at this; exact this) ?_
                        refine x_lconst (x := 0) dX10_kindOf_163 (okJ_c rfl) rfl ?_
                        refine x_lc_ne 172 dX10_kindOf_164 dX10_kindOf_165 (by decide) (fun c_164 => ?_) (fun c_164 => ?_)
                        · refine x_iconst dX10_kindOf_172 (okI_c rfl) ?_
                          exact x_ireturn dX10_kindOf_173 rfl (by decide) (by decide) (retI (by unfold kindS; (repeat' split) <;> omega))
                        · refine x_iconst dX10_kindOf_168 (okI_c rfl) ?_
                          refine x_goto 173 dX10_kindOf_169 (by decide) ?_
                          exact x_ireturn dX10_kindOf_173 rfl (by decide) (by decide) (retI (by unfold kindS; (repeat' split) <;> omega))
                · refine x_lload 0 dX10_kindOf_103 rfl ?_
                  refine x_lconst (x := 0) dX10_kindOf_105 (okJ_c rfl) rfl ?_
                  refine x_lc_le 130 dX10_kindOf_106 dX10_kindOf_107 (by decide) (fun c_106 => ?_) (fun c_106 => ?_)
                  · refine x_iload 1 dX10_kindOf_130 rfl ?_
                    refine x_iconst dX10_kindOf_132 (okI_c rfl) ?_
                    refine x_icmp_le 172 dX10_kindOf_133 (by decide) (fun c_133 => ?_) (fun c_133 => ?_)
                    · refine x_iconst dX10_kindOf_172 (okI_c rfl) ?_
                      exact x_ireturn dX10_kindOf_173 rfl (by decide) (by decide) (retI (by unfold kindS; (repeat' split) <;> omega))
                    · refine x_iload 2 dX10_kindOf_136 rfl ?_
                      refine x_if_ne 172 dX10_kindOf_138 (by decide) (fun c_138 => ?_) (fun c_138 => ?_)
                      · refine x_iconst dX10_kindOf_172 (okI_c rfl) ?_
                        exact x_ireturn dX10_kindOf_173 rfl (by decide) (by decide) (retI (by unfold kindS; (repeat' split) <;> omega))
                      · refine x_lload 0 dX10_kindOf_141 rfl ?_
                        refine x_lconst (x := 0) dX10_kindOf_143 (okJ_c rfl) rfl ?_
                        refine x_lc_le 172 dX10_kindOf_144 dX10_kindOf_145 (by decide) (fun c_144 => ?_) (fun c_144 => ?_)
                        · refine x_iconst dX10_kindOf_172 (okI_c rfl) ?_
                          exact x_ireturn dX10_kindOf_173 rfl (by decide) (by decide) (retI (by unfold kindS; (repeat' split) <;> omega))
                        · refine x_aload_n 4 dX10_kindOf_148 rfl rfl ?_
                          refine x_get 5 dX10_kindOf_149 fl_X10_23 hm rfl ?_
                          refine x_sipush dX10_kindOf_152 (okI_c rfl) (by decide +kernel) ?_
                          refine x_iload_n 5 dX10_kindOf_155 rfl rfl ?_
                          refine x_imul dX10_kindOf_156 (by unfold okI; omega) ?_
                          refine x_iload 1 dX10_kindOf_157 rfl ?_
                          refine x_iadd dX10_kindOf_159 (by unfold okI; omega) ?_
                          refine x_iconst dX10_kindOf_160 (okI_c rfl) ?_
                          refine x_isub dX10_kindOf_161 (by unfold okI; omega) ?_
                          refine x_laload dX10_kindOf_162 hb5 (by omega) (by omega) ?_
                          refine x_asJ (y := (A (D - 1).toNat)) (by have := eA (D - 1) (by omega) (by omega); rw [show 300 * f + (D - 1) = 300 * f + D - 1 by omega] at this; exact this) ?_
                          refine x_lconst (x := 0) dX10_kindOf_163 (okJ_c rfl) rfl ?_
                          refine x_lc_ne 172 dX10_kindOf_164 dX10_kindOf_165 (by decide) (fun c_164 => ?_) (fun c_164 => ?_)
                          · refine x_iconst dX10_kindOf_172 (okI_c rfl) ?_
                            exact x_ireturn dX10_kindOf_173 rfl (by decide) (by decide) (retI (by unfold kindS; (repeat' split) <;> omega))
                          · refine x_iconst dX10_kindOf_168 (okI_c rfl) ?_
                            refine x_goto 173 dX10_kindOf_169 (by decide) ?_
                            exact x_ireturn dX10_kindOf_173 rfl (by decide) (by decide) (retI (by unfold kindS; (repeat' split) <;> omega))
                  · refine x_aload_n 4 dX10_kindOf_110 rfl rfl ?_
                    refine x_get 5 dX10_kindOf_111 fl_X10_23 hm rfl ?_
                    refine x_sipush dX10_kindOf_114 (okI_c rfl) (by decide +kernel) ?_
                    refine x_iload_n 5 dX10_kindOf_117 rfl rfl ?_
                    refine x_imul dX10_kindOf_118 (by unfold okI; omega) ?_
                    refine x_iload 2 dX10_kindOf_119 rfl ?_
                    refine x_iadd dX10_kindOf_121 (by unfold okI; omega) ?_
                    refine x_laload dX10_kindOf_122 hb5 (by omega) (by omega) ?_
                    refine x_asJ (y := (A T.toNat)) (eA T (by omega) (by omega)) ?_
                    refine x_lconst (x := 0) dX10_kindOf_123 (okJ_c rfl) rfl ?_
                    refine x_lc_ne 130 dX10_kindOf_124 dX10_kindOf_125 (by decide) (fun c_124 => ?_) (fun c_124 => ?_)
                    · refine x_iload 1 dX10_kindOf_130 rfl ?_
                      refine x_iconst dX10_kindOf_132 (okI_c rfl) ?_
                      refine x_icmp_le 172 dX10_kindOf_133 (by decide) (fun c_133 => ?_) (fun c_133 => ?_)
                      · refine x_iconst dX10_kindOf_172 (okI_c rfl) ?_
                        exact x_ireturn dX10_kindOf_173 rfl (by decide) (by decide) (retI (by unfold kindS; (repeat' split) <;> omega))
                      · refine x_iload 2 dX10_kindOf_136 rfl ?_
                        refine x_if_ne 172 dX10_kindOf_138 (by decide) (fun c_138 => ?_) (fun c_138 => ?_)
                        · refine x_iconst dX10_kindOf_172 (okI_c rfl) ?_
                          exact x_ireturn dX10_kindOf_173 rfl (by decide) (by decide) (retI (by unfold kindS; (repeat' split) <;> omega))
                        · refine x_lload 0 dX10_kindOf_141 rfl ?_
                          refine x_lconst (x := 0) dX10_kindOf_143 (okJ_c rfl) rfl ?_
                          refine x_lc_le 172 dX10_kindOf_144 dX10_kindOf_145 (by decide) (fun c_144 => ?_) (fun c_144 => ?_)
                          · refine x_iconst dX10_kindOf_172 (okI_c rfl) ?_
                            exact x_ireturn dX10_kindOf_173 rfl (by decide) (by decide) (retI (by unfold kindS; (repeat' split) <;> omega))
                          · refine x_aload_n 4 dX10_kindOf_148 rfl rfl ?_
                            refine x_get 5 dX10_kindOf_149 fl_X10_23 hm rfl ?_
                            refine x_sipush dX10_kindOf_152 (okI_c rfl) (by decide +kernel) ?_
                            refine x_iload_n 5 dX10_kindOf_155 rfl rfl ?_
                            refine x_imul dX10_kindOf_156 (by unfold okI; omega) ?_
                            refine x_iload 1 dX10_kindOf_157 rfl ?_
                            refine x_iadd dX10_kindOf_159 (by unfold okI; omega) ?_
                            refine x_iconst dX10_kindOf_160 (okI_c rfl) ?_
                            refine x_isub dX10_kindOf_161 (by unfold okI; omega) ?_
                            refine x_laload dX10_kindOf_162 hb5 (by omega) (by omega) ?_
                            refine x_asJ (y := (A (D - 1).toNat)) (by have := eA (D - 1) (by omega) (by omega); rw [show 300 * f + (D - 1) = 300 * f + D - 1 by omega] at this; exact this) ?_
                            refine x_lconst (x := 0) dX10_kindOf_163 (okJ_c rfl) rfl ?_
                            refine x_lc_ne 172 dX10_kindOf_164 dX10_kindOf_165 (by decide) (fun c_164 => ?_) (fun c_164 => ?_)
                            · refine x_iconst dX10_kindOf_172 (okI_c rfl) ?_
                              exact x_ireturn dX10_kindOf_173 rfl (by decide) (by decide) (retI (by unfold kindS; (repeat' split) <;> omega))
                            · refine x_iconst dX10_kindOf_168 (okI_c rfl) ?_
                              refine x_goto 173 dX10_kindOf_169 (by decide) ?_
                              exact x_ireturn dX10_kindOf_173 rfl (by decide) (by decide) (retI (by unfold kindS; (repeat' split) <;> omega))
                    · refine x_iconst dX10_kindOf_128 (okI_c rfl) ?_
                      exact x_ireturn dX10_kindOf_129 rfl (by decide) (by decide) (retI (by unfold kindS; (repeat' split) <;> omega))
            · refine x_lload_n 3 dX10_kindOf_84 rfl rfl ?_
              refine x_lconst (x := 0) dX10_kindOf_85 (okJ_c rfl) rfl ?_
              refine x_lc_ne 92 dX10_kindOf_86 dX10_kindOf_87 (by decide) (fun c_86 => ?_) (fun c_86 => ?_)
              · refine x_iload 1 dX10_kindOf_92 rfl ?_
                refine x_iconst dX10_kindOf_94 (okI_c rfl) ?_
                refine x_icmp_ne 130 dX10_kindOf_95 (by decide) (fun c_95 => ?_) (fun c_95 => ?_)
                · refine x_iload 1 dX10_kindOf_130 rfl ?_
                  refine x_iconst dX10_kindOf_132 (okI_c rfl) ?_
                  refine x_icmp_le 172 dX10_kindOf_133 (by decide) (fun c_133 => ?_) (fun c_133 => ?_)
                  · refine x_iconst dX10_kindOf_172 (okI_c rfl) ?_
                    exact x_ireturn dX10_kindOf_173 rfl (by decide) (by decide) (retI (by unfold kindS; (repeat' split) <;> omega))
                  · refine x_iload 2 dX10_kindOf_136 rfl ?_
                    refine x_if_ne 172 dX10_kindOf_138 (by decide) (fun c_138 => ?_) (fun c_138 => ?_)
                    · refine x_iconst dX10_kindOf_172 (okI_c rfl) ?_
                      exact x_ireturn dX10_kindOf_173 rfl (by decide) (by decide) (retI (by unfold kindS; (repeat' split) <;> omega))
                    · refine x_lload 0 dX10_kindOf_141 rfl ?_
                      refine x_lconst (x := 0) dX10_kindOf_143 (okJ_c rfl) rfl ?_
                      refine x_lc_le 172 dX10_kindOf_144 dX10_kindOf_145 (by decide) (fun c_144 => ?_) (fun c_144 => ?_)
                      · refine x_iconst dX10_kindOf_172 (okI_c rfl) ?_
                        exact x_ireturn dX10_kindOf_173 rfl (by decide) (by decide) (retI (by unfold kindS; (repeat' split) <;> omega))
                      · refine x_aload_n 4 dX10_kindOf_148 rfl rfl ?_
                        refine x_get 5 dX10_kindOf_149 fl_X10_23 hm rfl ?_
                        refine x_sipush dX10_kindOf_152 (okI_c rfl) (by decide +kernel) ?_
                        refine x_iload_n 5 dX10_kindOf_155 rfl rfl ?_
                        refine x_imul dX10_kindOf_156 (by unfold okI; omega) ?_
                        refine x_iload 1 dX10_kindOf_157 rfl ?_
                        refine x_iadd dX10_kindOf_159 (by unfold okI; omega) ?_
                        refine x_iconst dX10_kindOf_160 (okI_c rfl) ?_
                        refine x_isub dX10_kindOf_161 (by unfold okI; omega) ?_
                        refine x_laload dX10_kindOf_162 hb5 (by omega) (by omega) ?_
                        refine x_asJ (y := (A (D - 1).toNat)) (by have := eA (D - 1) (by omega) (by omega); rw [show 300 * f + (D - 1) = 300 * f + D - 1 by omega] at this; exact this) ?_
                        refine x_lconst (x := 0) dX10_kindOf_163 (okJ_c rfl) rfl ?_
                        refine x_lc_ne 172 dX10_kindOf_164 dX10_kindOf_165 (by decide) (fun c_164 => ?_) (fun c_164 => ?_)
                        · refine x_iconst dX10_kindOf_172 (okI_c rfl) ?_
                          exact x_ireturn dX10_kindOf_173 rfl (by decide) (by decide) (retI (by unfold kindS; (repeat' split) <;> omega))
                        · refine x_iconst dX10_kindOf_168 (okI_c rfl) ?_
                          refine x_goto 173 dX10_kindOf_169 (by decide) ?_
                          exact x_ireturn dX10_kindOf_173 rfl (by decide) (by decide) (retI (by unfold kindS; (repeat' split) <;> omega))
                · refine x_iload 2 dX10_kindOf_98 rfl ?_
                  refine x_if_le 130 dX10_kindOf_100 (by decide) (fun c_100 => ?_) (fun c_100 => ?_)
                  · refine x_iload 1 dX10_kindOf_130 rfl ?_
                    refine x_iconst dX10_kindOf_132 (okI_c rfl) ?_
                    refine x_icmp_le 172 dX10_kindOf_133 (by decide) (fun c_133 => ?_) (fun c_133 => ?_)
                    · refine x_iconst dX10_kindOf_172 (okI_c rfl) ?_
                      exact x_ireturn dX10_kindOf_173 rfl (by decide) (by decide) (retI (by unfold kindS; (repeat' split) <;> omega))
                    · refine x_iload 2 dX10_kindOf_136 rfl ?_
                      refine x_if_ne 172 dX10_kindOf_138 (by decide) (fun c_138 => ?_) (fun c_138 => ?_)
                      · refine x_iconst dX10_kindOf_172 (okI_c rfl) ?_
                        exact x_ireturn dX10_kindOf_173 rfl (by decide) (by decide) (retI (by unfold kindS; (repeat' split) <;> omega))
                      · refine x_lload 0 dX10_kindOf_141 rfl ?_
                        refine x_lconst (x := 0) dX10_kindOf_143 (okJ_c rfl) rfl ?_
                        refine x_lc_le 172 dX10_kindOf_144 dX10_kindOf_145 (by decide) (fun c_144 => ?_) (fun c_144 => ?_)
                        · refine x_iconst dX10_kindOf_172 (okI_c rfl) ?_
                          exact x_ireturn dX10_kindOf_173 rfl (by decide) (by decide) (retI (by unfold kindS; (repeat' split) <;> omega))
                        · refine x_aload_n 4 dX10_kindOf_148 rfl rfl ?_
                          refine x_get 5 dX10_kindOf_149 fl_X10_23 hm rfl ?_
                          refine x_sipush dX10_kindOf_152 (okI_c rfl) (by decide +kernel) ?_
                          refine x_iload_n 5 dX10_kindOf_155 rfl rfl ?_
                          refine x_imul dX10_kindOf_156 (by unfold okI; omega) ?_
                          refine x_iload 1 dX10_kindOf_157 rfl ?_
                          refine x_iadd dX10_kindOf_159 (by unfold okI; omega) ?_
                          refine x_iconst dX10_kindOf_160 (okI_c rfl) ?_
                          refine x_isub dX10_kindOf_161 (by unfold okI; omega) ?_
                          refine x_laload dX10_kindOf_162 hb5 (by omega) (by omega) ?_
                          refine x_asJ (y := (A (D - 1).toNat)) (by have := eA (D - 1) (by omega) (by omega); rw [show 300 * f + (D - 1) = 300 * f + D - 1 by omega] at this; exact this) ?_
                          refine x_lconst (x := 0) dX10_kindOf_163 (okJ_c rfl) rfl ?_
                          refine x_lc_ne 172 dX10_kindOf_164 dX10_kindOf_165 (by decide) (fun c_164 => ?_) (fun c_164 => ?_)
                          · refine x_iconst dX10_kindOf_172 (okI_c rfl) ?_
                            exact x_ireturn dX10_kindOf_173 rfl (by decide) (by decide) (retI (by unfold kindS; (repeat' split) <;> omega))
                          · refine x_iconst dX10_kindOf_168 (okI_c rfl) ?_
                            refine x_goto 173 dX10_kindOf_169 (by decide) ?_
                            exact x_ireturn dX10_kindOf_173 rfl (by decide) (by decide) (retI (by unfold kindS; (repeat' split) <;> omega))
                  · refine x_lload 0 dX10_kindOf_103 rfl ?_
                    refine x_lconst (x := 0) dX10_kindOf_105 (okJ_c rfl) rfl ?_
                    refine x_lc_le 130 dX10_kindOf_106 dX10_kindOf_107 (by decide) (fun c_106 => ?_) (fun c_106 => ?_)
                    · refine x_iload 1 dX10_kindOf_130 rfl ?_
                      refine x_iconst dX10_kindOf_132 (okI_c rfl) ?_
                      refine x_icmp_le 172 dX10_kindOf_133 (by decide) (fun c_133 => ?_) (fun c_133 => ?_)
                      · refine x_iconst dX10_kindOf_172 (okI_c rfl) ?_
                        exact x_ireturn dX10_kindOf_173 rfl (by decide) (by decide) (retI (by unfold kindS; (repeat' split) <;> omega))
                      · refine x_iload 2 dX10_kindOf_136 rfl ?_
                        refine x_if_ne 172 dX10_kindOf_138 (by decide) (fun c_138 => ?_) (fun c_138 => ?_)
                        · refine x_iconst dX10_kindOf_172 (okI_c rfl) ?_
                          exact x_ireturn dX10_kindOf_173 rfl (by decide) (by decide) (retI (by unfold kindS; (repeat' split) <;> omega))
                        · refine x_lload 0 dX10_kindOf_141 rfl ?_
                          refine x_lconst (x := 0) dX10_kindOf_143 (okJ_c rfl) rfl ?_
                          refine x_lc_le 172 dX10_kindOf_144 dX10_kindOf_145 (by decide) (fun c_144 => ?_) (fun c_144 => ?_)
                          · refine x_iconst dX10_kindOf_172 (okI_c rfl) ?_
                            exact x_ireturn dX10_kindOf_173 rfl (by decide) (by decide) (retI (by unfold kindS; (repeat' split) <;> omega))
                          · refine x_aload_n 4 dX10_kindOf_148 rfl rfl ?_
                            refine x_get 5 dX10_kindOf_149 fl_X10_23 hm rfl ?_
                            refine x_sipush dX10_kindOf_152 (okI_c rfl) (by decide +kernel) ?_
                            refine x_iload_n 5 dX10_kindOf_155 rfl rfl ?_
                            refine x_imul dX10_kindOf_156 (by unfold okI; omega) ?_
                            refine x_iload 1 dX10_kindOf_157 rfl ?_
                            refine x_iadd dX10_kindOf_159 (by unfold okI; omega) ?_
                            refine x_iconst dX10_kindOf_160 (okI_c rfl) ?_
                            refine x_isub dX10_kindOf_161 (by unfold okI; omega) ?_
                            refine x_laload dX10_kindOf_162 hb5 (by omega) (by omega) ?_
                            refine x_asJ (y := (A (D - 1).toNat)) (by have := eA (D - 1) (by omega) (by omega); rw [show 300 * f + (D - 1) = 300 * f + D - 1 by omega] at this; exact this) ?_
                            refine x_lconst (x := 0) dX10_kindOf_163 (okJ_c rfl) rfl ?_
                            refine x_lc_ne 172 dX10_kindOf_164 dX10_kindOf_165 (by decide) (fun c_164 => ?_) (fun c_164 => ?_)
                            · refine x_iconst dX10_kindOf_172 (okI_c rfl) ?_
                              exact x_ireturn dX10_kindOf_173 rfl (by decide) (by decide) (retI (by unfold kindS; (repeat' split) <;> omega))
                            · refine x_iconst dX10_kindOf_168 (okI_c rfl) ?_
                              refine x_goto 173 dX10_kindOf_169 (by decide) ?_
                              exact x_ireturn dX10_kindOf_173 rfl (by decide) (by decide) (retI (by unfold kindS; (repeat' split) <;> omega))
                    · refine x_aload_n 4 dX10_kindOf_110 rfl rfl ?_
                      refine x_get 5 dX10_kindOf_111 fl_X10_23 hm rfl ?_
                      refine x_sipush dX10_kindOf_114 (okI_c rfl) (by decide +kernel) ?_
                      refine x_iload_n 5 dX10_kindOf_117 rfl rfl ?_
                      refine x_imul dX10_kindOf_118 (by unfold okI; omega) ?_
                      refine x_iload 2 dX10_kindOf_119 rfl ?_
                      refine x_iadd dX10_kindOf_121 (by unfold okI; omega) ?_
                      refine x_laload dX10_kindOf_122 hb5 (by omega) (by omega) ?_
                      refine x_asJ (y := (A T.toNat)) (eA T (by omega) (by omega)) ?_
                      refine x_lconst (x := 0) dX10_kindOf_123 (okJ_c rfl) rfl ?_
                      refine x_lc_ne 130 dX10_kindOf_124 dX10_kindOf_125 (by decide) (fun c_124 => ?_) (fun c_124 => ?_)
                      · refine x_iload 1 dX10_kindOf_130 rfl ?_
                        refine x_iconst dX10_kindOf_132 (okI_c rfl) ?_
                        refine x_icmp_le 172 dX10_kindOf_133 (by decide) (fun c_133 => ?_) (fun c_133 => ?_)
                        · refine x_iconst dX10_kindOf_172 (okI_c rfl) ?_
                          exact x_ireturn dX10_kindOf_173 rfl (by decide) (by decide) (retI (by unfold kindS; (repeat' split) <;> omega))
                        · refine x_iload 2 dX10_kindOf_136 rfl ?_
                          refine x_if_ne 172 dX10_kindOf_138 (by decide) (fun c_138 => ?_) (fun c_138 => ?_)
                          · refine x_iconst dX10_kindOf_172 (okI_c rfl) ?_
                            exact x_ireturn dX10_kindOf_173 rfl (by decide) (by decide) (retI (by unfold kindS; (repeat' split) <;> omega))
                          · refine x_lload 0 dX10_kindOf_141 rfl ?_
                            refine x_lconst (x := 0) dX10_kindOf_143 (okJ_c rfl) rfl ?_
                            refine x_lc_le 172 dX10_kindOf_144 dX10_kindOf_145 (by decide) (fun c_144 => ?_) (fun c_144 => ?_)
                            · refine x_iconst dX10_kindOf_172 (okI_c rfl) ?_
                              exact x_ireturn dX10_kindOf_173 rfl (by decide) (by decide) (retI (by unfold kindS; (repeat' split) <;> omega))
                            · refine x_aload_n 4 dX10_kindOf_148 rfl rfl ?_
                              refine x_get 5 dX10_kindOf_149 fl_X10_23 hm rfl ?_
                              refine x_sipush dX10_kindOf_152 (okI_c rfl) (by decide +kernel) ?_
                              refine x_iload_n 5 dX10_kindOf_155 rfl rfl ?_
                              refine x_imul dX10_kindOf_156 (by unfold okI; omega) ?_
                              refine x_iload 1 dX10_kindOf_157 rfl ?_
                              refine x_iadd dX10_kindOf_159 (by unfold okI; omega) ?_
                              refine x_iconst dX10_kindOf_160 (okI_c rfl) ?_
                              refine x_isub dX10_kindOf_161 (by unfold okI; omega) ?_
                              refine x_laload dX10_kindOf_162 hb5 (by omega) (by omega) ?_
                              refine x_asJ (y := (A (D - 1).toNat)) (by have := eA (D - 1) (by omega) (by omega); rw [show 300 * f + (D - 1) = 300 * f + D - 1 by omega] at this; exact this) ?_
                              refine x_lconst (x := 0) dX10_kindOf_163 (okJ_c rfl) rfl ?_
                              refine x_lc_ne 172 dX10_kindOf_164 dX10_kindOf_165 (by decide) (fun c_164 => ?_) (fun c_164 => ?_)
                              · refine x_iconst dX10_kindOf_172 (okI_c rfl) ?_
                                exact x_ireturn dX10_kindOf_173 rfl (by decide) (by decide) (retI (by unfold kindS; (repeat' split) <;> omega))
                              · refine x_iconst dX10_kindOf_168 (okI_c rfl) ?_
                                refine x_goto 173 dX10_kindOf_169 (by decide) ?_
                                exact x_ireturn dX10_kindOf_173 rfl (by decide) (by decide) (retI (by unfold kindS; (repeat' split) <;> omega))
                      · refine x_iconst dX10_kindOf_128 (okI_c rfl) ?_
                        exact x_ireturn dX10_kindOf_129 rfl (by decide) (by decide) (retI (by unfold kindS; (repeat' split) <;> omega))
              · refine x_iconst dX10_kindOf_90 (okI_c rfl) ?_
                exact x_ireturn dX10_kindOf_91 rfl (by decide) (by decide) (retI (by unfold kindS; (repeat' split) <;> omega))
        · refine x_iconst dX10_kindOf_71 (okI_c rfl) ?_
          exact x_ireturn dX10_kindOf_72 rfl (by decide) (by decide) (retI (by unfold kindS; (repeat' split) <;> omega))
