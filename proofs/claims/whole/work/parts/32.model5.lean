/-! ===== FlowCurvesModel: what is told of curves ===== -/
theorem kindS_b (T D C : Int) (A : Nat → Int) : 0 ≤ kindS T D C A ∧ kindS T D C A ≤ 4 := by
  unfold kindS; (repeat' split) <;> omega
theorem tl_1 {g : Nat → Int} {k : Int} (h : k = 1) : va_up (va_up g k.toNat (g k.toNat + 1)) (2 : Int).toNat (va_up g k.toNat (g k.toNat + 1) (2 : Int).toNat + 1) = tlAt k g := by
  subst h; rfl
theorem tl_n {g : Nat → Int} {k : Int} (h : k ≠ 1) : va_up (va_up g k.toNat (g k.toNat + 1)) (2 : Int).toNat (va_up g k.toNat (g k.toNat + 1) (2 : Int).toNat + 0) = tlAt k g := by
  rw [tlAt, if_neg h, Int.add_zero]
  funext j
  by_cases q : j = (2 : Int).toNat
  · subst q; rw [va_up_self]; rfl
  · rw [va_up_ne _ _ q]; rfl
set_option maxRecDepth 100000 in
set_option maxHeartbeats 4000000 in
theorem k_X10_at {G : aG} {d : Nat} (hd : 5 ≤ d) {m b1 b2 b3 b4 b5 b6 b7 b8 b9 lo hi : Nat} {S : aS} {nc : Nat} {h : aH} (hM : MRel m b1 b2 b3 b4 b5 b6 b7 b8 b9 lo hi S h) (hS : SOk nc S) {f : Int} {t : Int} (hnc : nc ≤ 1000) : MC G mX10_at d 0 0 [vA m, vI f, vI t] h (MOut m b1 b2 b3 b4 b5 b6 b7 b8 b9 lo hi h vJ (oAt f t S)) := by
  obtain ⟨⟨o0, o1, o2, o3, o4, o5, o6, o7, o8, o9, oA⟩, hm, ⟨gT, gD, gC, gK, gA, hb1, hb2, hb3, hb4, hb5, hcu⟩, ⟨fr, hb6, hrw⟩, ⟨sm, hb7, hsm⟩, ⟨g8, hb8, htl⟩, ⟨gw, hb9⟩⟩ := id hM
  obtain ⟨⟨s1, s2⟩, s3, ⟨s4, s5⟩, ⟨s6, s7, s8⟩, s9, ⟨s10, s11⟩, s12⟩ := id hS
  refine MC.of (by decide) (Nat.le_of_ble_eq_true rfl) (fun ok okh => ?_)
  show EX G mX10_at d 0 0 _ 0 [(0, vA m), (1, vI f), (2, vI t)] [] h 0 0
  refine x_aload_n 0 dX10_at_0 rfl rfl ?_
  refine x_iload_n 1 dX10_at_1 rfl rfl ?_
  refine x_callV [vI f] dX10_at_2 kv_X10_109 rfl rfl hm (by omega) (Nat.le_of_ble_eq_true rfl) (by omega) (by omega) (k_X10_isCurve (d := 1) (by omega) hM hS (f := f)) (after_ret ?_)
  refine x_if_eq 20 dX10_at_5 (by decide) (fun c_5 => ?_) (fun c_5 => ?_)
  · have p_5 := b2i_eq c_5
    refine x_aload_n 0 dX10_at_20 rfl rfl ?_
    refine x_iconst dX10_at_21 (okI_c rfl) ?_
    refine x_callV [vI ((-1))] dX10_at_22 kv_X10_128 rfl rfl hm (by omega) (Nat.le_of_ble_eq_true rfl) (by omega) (by omega) (k_X10_none (d := 0) (S := S)  (hM)) (fun r1 h1 q1 => ?_)
    obtain ⟨rfl, hCz, hFz⟩ := q1
    exact x_lreturn dX10_at_25 rfl (by omega) (by omega) (outM (by rw [oAt, cond_t (by first | exact Or.inl p_5 | exact Or.inr (by omega))]; rfl) hCz (MFr.trans MFr.refl hFz))
  · have p_5 := b2i_ne c_5
    refine x_iload_n 2 dX10_at_8 rfl rfl ?_
    refine x_i2l dX10_at_9 ?_
    refine x_lconst (x := 0) dX10_at_10 (okJ_c rfl) rfl ?_
    refine x_ldc2 (n := 1000000000) dX10_at_11 (okJ_c rfl) kc_X10_62 ?_
    refine x_callS [vJ t, vJ 0, vJ 1000000000] dX10_at_14 ks_X10_50 rfl rfl (by omega) (Nat.le_of_ble_eq_true rfl) (by omega) (by omega) (k_X10_in (d := 0)) (after_ret ?_)
    refine x_if_ne 26 dX10_at_17 (by decide) (fun c_17 => ?_) (fun c_17 => ?_)
    · have p_17 := b2i_ne c_17
      have hf := p_5
      have hcf := hcu f hf.1 hf.2
      obtain ⟨hT0f, hT2f, hD0f, hD6f, hC0f, hC1f, hAf, hMf, hWf⟩ := id (s3 f hf.1 hf.2)
      have hlf := hf.2
      have hzf := hf.1
      have hkb := kindS_b (sT S f) (sD S f) (sC S f) (sA S f)
      have hkb : 0 ≤ sK S f ∧ sK S f ≤ 4 := hkb
      have hgb : ∀ j, 0 ≤ g8 j ∧ g8 j ≤ 1000 := fun j => by rw [htl]; have := s12 j; omega
      refine x_aload_n 0 dX10_at_26 rfl rfl ?_
      refine x_get 12 dX10_at_27 fl_X10_36 hm rfl ?_
      refine x_aload_n 0 dX10_at_30 rfl rfl ?_
      refine x_get 4 dX10_at_31 fl_X10_20 hm rfl ?_
      refine x_iload_n 1 dX10_at_34 rfl rfl ?_
      refine x_iaload dX10_at_35 hb4 (by omega) (by omega) ?_
      refine x_asI (y := (sK S f)) hcf.2.2.2.1 ?_
      refine x_dup2 dX10_at_36 rfl rfl ?_
      refine x_iaload dX10_at_37 hb8 (by omega) (by omega) ?_
      refine x_iconst dX10_at_38 (okI_c rfl) ?_
      refine x_iadd dX10_at_39 (by have := hgb (sK S f).toNat; unfold okI; omega) ?_
      refine x_iastore dX10_at_40 hb8 (by omega) (by omega) ?_
      refine x_aload_n 0 dX10_at_41 rfl rfl ?_
      refine x_get 12 dX10_at_42 fl_X10_36 ((hset_ne _ _ (by omega)).trans hm) rfl ?_
      refine x_iconst dX10_at_45 (okI_c rfl) ?_
      refine x_dup2 dX10_at_46 rfl rfl ?_
      refine x_iaload dX10_at_47 (hset_eq _ _ _) (by omega) (by omega) ?_
      refine x_aload_n 0 dX10_at_48 rfl rfl ?_
      refine x_get 4 dX10_at_49 fl_X10_20 ((hset_ne _ _ (by omega)).trans hm) rfl ?_
      refine x_iload_n 1 dX10_at_52 rfl rfl ?_
      refine x_iaload dX10_at_53 ((hset_ne _ _ (by omega)).trans hb4) (by omega) (by omega) ?_
      refine x_asI (y := (sK S f)) hcf.2.2.2.1 ?_
      refine x_iconst dX10_at_54 (okI_c rfl) ?_
      refine x_icmp_ne 62 dX10_at_55 (by decide) (fun c_55 => ?_) (fun c_55 => ?_)
      · refine x_iconst dX10_at_62 (okI_c rfl) ?_
        refine x_iadd dX10_at_63 (by have w1 := hgb (sK S f).toNat; have w2 := hgb (2 : Int).toNat; unfold okI; simp only [va_up]; split <;> omega) ?_
        refine x_iastore dX10_at_64 (hset_eq _ _ _) (by omega) (by omega) ?_
        refine x_aload_n 0 dX10_at_65 rfl rfl ?_
        refine x_aload_n 0 dX10_at_66 rfl rfl ?_
        refine x_iload_n 1 dX10_at_67 rfl rfl ?_
        refine x_iload_n 2 dX10_at_68 rfl rfl ?_
        refine x_i2l dX10_at_69 ?_
        refine x_callV [vI f, vJ t] dX10_at_70 kv_X10_95 rfl rfl ((hset_ne _ _ (by omega)).trans ((hset_ne _ _ (by omega)).trans hm)) (by omega) (Nat.le_of_ble_eq_true rfl) (by omega) (by omega) (k_X10_valueR (d := 0) (S := S) ((hset_ne _ _ (by omega)).trans ((hset_ne _ _ (by omega)).trans hm)) ((hset_ne _ _ (by omega)).trans ((hset_ne _ _ (by omega)).trans hb1)) ((hset_ne _ _ (by omega)).trans ((hset_ne _ _ (by omega)).trans hb2)) ((hset_ne _ _ (by omega)).trans ((hset_ne _ _ (by omega)).trans hb3)) ((hset_ne _ _ (by omega)).trans ((hset_ne _ _ (by omega)).trans hb5)) hf.1 (by omega) hcf.1 hcf.2.1 hcf.2.2.1 hcf.2.2.2.2 (s3 f hf.1 hf.2) (t := t) (by omega) (by omega)) (after_ret (x_asJ (y := sF S f t) rfl ?_))
        refine x_callV [vJ ((sF S f t))] dX10_at_73 kv_X10_132 rfl rfl ((hset_ne _ _ (by omega)).trans ((hset_ne _ _ (by omega)).trans hm)) (by omega) (Nat.le_of_ble_eq_true rfl) (by omega) (by omega) (k_X10_fineLong (d := 0) (S := sTal (tlAt (sK S f) (sTl S)) S) (h := (hset (hset h b8 (eI 5 (va_up g8 ((sK S f)).toNat ((g8 ((sK S f) : Int).toNat) + 1)))) b8 (eI 5 (va_up (va_up g8 ((sK S f)).toNat ((g8 ((sK S f) : Int).toNat) + 1)) (2 : Int).toNat (((va_up g8 ((sK S f)).toNat ((g8 ((sK S f) : Int).toNat) + 1)) (2 : Int).toNat) + 0))))) (⟨⟨o0, o1, o2, o3, o4, o5, o6, o7, o8, o9, oA⟩, ((hset_ne _ _ (by omega)).trans ((hset_ne _ _ (by omega)).trans hm)), ⟨gT, gD, gC, gK, gA, ((hset_ne _ _ (by omega)).trans ((hset_ne _ _ (by omega)).trans hb1)), ((hset_ne _ _ (by omega)).trans ((hset_ne _ _ (by omega)).trans hb2)), ((hset_ne _ _ (by omega)).trans ((hset_ne _ _ (by omega)).trans hb3)), ((hset_ne _ _ (by omega)).trans ((hset_ne _ _ (by omega)).trans hb4)), ((hset_ne _ _ (by omega)).trans ((hset_ne _ _ (by omega)).trans hb5)), hcu⟩, ⟨fr, ((hset_ne _ _ (by omega)).trans ((hset_ne _ _ (by omega)).trans hb6)), hrw⟩, ⟨sm, ((hset_ne _ _ (by omega)).trans ((hset_ne _ _ (by omega)).trans hb7)), hsm⟩, ⟨(va_up (va_up g8 ((sK S f)).toNat ((g8 ((sK S f) : Int).toNat) + 1)) (2 : Int).toNat (((va_up g8 ((sK S f)).toNat ((g8 ((sK S f) : Int).toNat) + 1)) (2 : Int).toNat) + 0)), (hset_eq _ _ _), (fun b => by show _ = tlAt (sK S f) (sTl S) b; rw [← funext htl]; exact congrFun (tl_n (by omega)) b)⟩, ⟨_, ((hset_ne _ _ (by omega)).trans ((hset_ne _ _ (by omega)).trans hb9))⟩⟩)) (fun r1 h1 q1 => ?_)
        obtain ⟨rfl, hCz, hFz⟩ := q1
        exact x_lreturn dX10_at_76 rfl (by omega) (by omega) (outM (by rw [oAt, cond_f (fun z => z.elim (fun y => y p_5) (fun y => by omega))]; rfl) hCz (MFr.trans (MFr.set (MFr.set MFr.refl (by omega) (by omega)) (by omega) (by omega)) hFz))
      · refine x_iconst dX10_at_58 (okI_c rfl) ?_
        refine x_goto 63 dX10_at_59 (by decide) ?_
        refine x_iadd dX10_at_63 (by have w1 := hgb (sK S f).toNat; have w2 := hgb (2 : Int).toNat; unfold okI; simp only [va_up]; split <;> omega) ?_
        refine x_iastore dX10_at_64 (hset_eq _ _ _) (by omega) (by omega) ?_
        refine x_aload_n 0 dX10_at_65 rfl rfl ?_
        refine x_aload_n 0 dX10_at_66 rfl rfl ?_
        refine x_iload_n 1 dX10_at_67 rfl rfl ?_
        refine x_iload_n 2 dX10_at_68 rfl rfl ?_
        refine x_i2l dX10_at_69 ?_
        refine x_callV [vI f, vJ t] dX10_at_70 kv_X10_95 rfl rfl ((hset_ne _ _ (by omega)).trans ((hset_ne _ _ (by omega)).trans hm)) (by omega) (Nat.le_of_ble_eq_true rfl) (by omega) (by omega) (k_X10_valueR (d := 0) (S := S) ((hset_ne _ _ (by omega)).trans ((hset_ne _ _ (by omega)).trans hm)) ((hset_ne _ _ (by omega)).trans ((hset_ne _ _ (by omega)).trans hb1)) ((hset_ne _ _ (by omega)).trans ((hset_ne _ _ (by omega)).trans hb2)) ((hset_ne _ _ (by omega)).trans ((hset_ne _ _ (by omega)).trans hb3)) ((hset_ne _ _ (by omega)).trans ((hset_ne _ _ (by omega)).trans hb5)) hf.1 (by omega) hcf.1 hcf.2.1 hcf.2.2.1 hcf.2.2.2.2 (s3 f hf.1 hf.2) (t := t) (by omega) (by omega)) (after_ret (x_asJ (y := sF S f t) rfl ?_))
        refine x_callV [vJ ((sF S f t))] dX10_at_73 kv_X10_132 rfl rfl ((hset_ne _ _ (by omega)).trans ((hset_ne _ _ (by omega)).trans hm)) (by omega) (Nat.le_of_ble_eq_true rfl) (by omega) (by omega) (k_X10_fineLong (d := 0) (S := sTal (tlAt (sK S f) (sTl S)) S) (h := (hset (hset h b8 (eI 5 (va_up g8 ((sK S f)).toNat ((g8 ((sK S f) : Int).toNat) + 1)))) b8 (eI 5 (va_up (va_up g8 ((sK S f)).toNat ((g8 ((sK S f) : Int).toNat) + 1)) (2 : Int).toNat (((va_up g8 ((sK S f)).toNat ((g8 ((sK S f) : Int).toNat) + 1)) (2 : Int).toNat) + 1))))) (⟨⟨o0, o1, o2, o3, o4, o5, o6, o7, o8, o9, oA⟩, ((hset_ne _ _ (by omega)).trans ((hset_ne _ _ (by omega)).trans hm)), ⟨gT, gD, gC, gK, gA, ((hset_ne _ _ (by omega)).trans ((hset_ne _ _ (by omega)).trans hb1)), ((hset_ne _ _ (by omega)).trans ((hset_ne _ _ (by omega)).trans hb2)), ((hset_ne _ _ (by omega)).trans ((hset_ne _ _ (by omega)).trans hb3)), ((hset_ne _ _ (by omega)).trans ((hset_ne _ _ (by omega)).trans hb4)), ((hset_ne _ _ (by omega)).trans ((hset_ne _ _ (by omega)).trans hb5)), hcu⟩, ⟨fr, ((hset_ne _ _ (by omega)).trans ((hset_ne _ _ (by omega)).trans hb6)), hrw⟩, ⟨sm, ((hset_ne _ _ (by omega)).trans ((hset_ne _ _ (by omega)).trans hb7)), hsm⟩, ⟨(va_up (va_up g8 ((sK S f)).toNat ((g8 ((sK S f) : Int).toNat) + 1)) (2 : Int).toNat (((va_up g8 ((sK S f)).toNat ((g8 ((sK S f) : Int).toNat) + 1)) (2 : Int).toNat) + 1)), (hset_eq _ _ _), (fun b => by show _ = tlAt (sK S f) (sTl S) b; rw [← funext htl]; exact congrFun (tl_1 (by omega)) b)⟩, ⟨_, ((hset_ne _ _ (by omega)).trans ((hset_ne _ _ (by omega)).trans hb9))⟩⟩)) (fun r1 h1 q1 => ?_)
        obtain ⟨rfl, hCz, hFz⟩ := q1
        exact x_lreturn dX10_at_76 rfl (by omega) (by omega) (outM (by rw [oAt, cond_f (fun z => z.elim (fun y => y p_5) (fun y => by omega))]; rfl) hCz (MFr.trans (MFr.set (MFr.set MFr.refl (by omega) (by omega)) (by omega) (by omega)) hFz))
    · have p_17 := b2i_eq c_17
      refine x_aload_n 0 dX10_at_20 rfl rfl ?_
      refine x_iconst dX10_at_21 (okI_c rfl) ?_
      refine x_callV [vI ((-1))] dX10_at_22 kv_X10_128 rfl rfl hm (by omega) (Nat.le_of_ble_eq_true rfl) (by omega) (by omega) (k_X10_none (d := 0) (S := S)  (hM)) (fun r1 h1 q1 => ?_)
      obtain ⟨rfl, hCz, hFz⟩ := q1
      exact x_lreturn dX10_at_25 rfl (by omega) (by omega) (outM (by rw [oAt, cond_t (by first | exact Or.inl p_5 | exact Or.inr (by omega))]; rfl) hCz (MFr.trans MFr.refl hFz))
set_option maxRecDepth 100000 in
set_option maxHeartbeats 4000000 in
theorem k_X10_about {G : aG} {d : Nat} (hd : 5 ≤ d) {m b1 b2 b3 b4 b5 b6 b7 b8 b9 lo hi : Nat} {S : aS} {nc : Nat} {h : aH} (hM : MRel m b1 b2 b3 b4 b5 b6 b7 b8 b9 lo hi S h) (hS : SOk nc S) {f : Int} {w : Int} : MC G mX10_about d 0 0 [vA m, vI f, vI w] h (MOut m b1 b2 b3 b4 b5 b6 b7 b8 b9 lo hi h vI (oAbout f w S)) := by
  obtain ⟨⟨o0, o1, o2, o3, o4, o5, o6, o7, o8, o9, oA⟩, hm, ⟨gT, gD, gC, gK, gA, hb1, hb2, hb3, hb4, hb5, hcu⟩, ⟨fr, hb6, hrw⟩, ⟨sm, hb7, hsm⟩, ⟨g8, hb8, htl⟩, ⟨gw, hb9⟩⟩ := id hM
  obtain ⟨⟨s1, s2⟩, s3, ⟨s4, s5⟩, ⟨s6, s7, s8⟩, s9, ⟨s10, s11⟩, s12⟩ := id hS
  refine MC.of (by decide) (Nat.le_of_ble_eq_true rfl) (fun ok okh => ?_)
  show EX G mX10_about d 0 0 _ 0 [(0, vA m), (1, vI f), (2, vI w)] [] h 0 0
  refine x_aload_n 0 dX10_about_0 rfl rfl ?_
  refine x_iload_n 1 dX10_about_1 rfl rfl ?_
  refine x_callV [vI f] dX10_about_2 kv_X10_109 rfl rfl hm (by omega) (Nat.le_of_ble_eq_true rfl) (by omega) (by omega) (k_X10_isCurve (d := 1) (by omega) hM hS (f := f)) (after_ret ?_)
  refine x_if_eq 20 dX10_about_5 (by decide) (fun c_5 => ?_) (fun c_5 => ?_)
  · have p_5 := b2i_eq c_5
    refine x_aload_n 0 dX10_about_20 rfl rfl ?_
    refine x_iconst dX10_about_21 (okI_c rfl) ?_
    refine x_callV [vI ((-1))] dX10_about_22 kv_X10_58 rfl rfl hm (by omega) (Nat.le_of_ble_eq_true rfl) (by omega) (by omega) (k_X10_refuse (d := 0) (S := S)  (hM)) (fun r1 h1 q1 => ?_)
    obtain ⟨rfl, hCz, hFz⟩ := q1
    exact x_ireturn dX10_about_25 rfl (by omega) (by omega) (outM (by rw [oAbout, cond_t (by first | exact Or.inl p_5 | exact Or.inr (by omega))]; rfl) hCz (MFr.trans MFr.refl hFz))
  · have p_5 := b2i_ne c_5
    refine x_iload_n 2 dX10_about_8 rfl rfl ?_
    refine x_i2l dX10_about_9 ?_
    refine x_lconst (x := 0) dX10_about_10 (okJ_c rfl) rfl ?_
    refine x_ldc2 (n := 4) dX10_about_11 (okJ_c rfl) kc_X10_136 ?_
    refine x_callS [vJ w, vJ 0, vJ 4] dX10_about_14 ks_X10_50 rfl rfl (by omega) (Nat.le_of_ble_eq_true rfl) (by omega) (by omega) (k_X10_in (d := 0)) (after_ret ?_)
    refine x_if_ne 26 dX10_about_17 (by decide) (fun c_17 => ?_) (fun c_17 => ?_)
    · have p_17 := b2i_ne c_17
      have hf := p_5
      have hcf := hcu f hf.1 hf.2
      obtain ⟨hT0f, hT2f, hD0f, hD6f, hC0f, hC1f, hAf, hMf, hWf⟩ := id (s3 f hf.1 hf.2)
      have hlf := hf.2
      have hzf := hf.1
      refine x_aload_n 0 dX10_about_26 rfl rfl ?_
      refine x_iload_n 2 dX10_about_27 rfl rfl ?_
      refine x_if_ne 40 dX10_about_28 (by decide) (fun c_28 => ?_) (fun c_28 => ?_)
      · refine x_iload_n 2 dX10_about_40 rfl rfl ?_
        refine x_iconst dX10_about_41 (okI_c rfl) ?_
        refine x_icmp_ne 54 dX10_about_42 (by decide) (fun c_42 => ?_) (fun c_42 => ?_)
        · refine x_iload_n 2 dX10_about_54 rfl rfl ?_
          refine x_iconst dX10_about_55 (okI_c rfl) ?_
          refine x_icmp_ne 69 dX10_about_56 (by decide) (fun c_56 => ?_) (fun c_56 => ?_)
          · refine x_iload_n 2 dX10_about_69 rfl rfl ?_
            refine x_iconst dX10_about_70 (okI_c rfl) ?_
            refine x_icmp_ne 83 dX10_about_71 (by decide) (fun c_71 => ?_) (fun c_71 => ?_)
            · refine x_aload_n 0 dX10_about_83 rfl rfl ?_
              refine x_iload_n 1 dX10_about_84 rfl rfl ?_
              refine x_callV [vI f] dX10_about_85 kv_X10_138 rfl rfl hm (by omega) (Nat.le_of_ble_eq_true rfl) (by omega) (by omega) (k_X10_isClosed (d := 1) (by omega) hM hS hf) (after_ret ?_)
              refine x_if_eq 95 dX10_about_88 (by decide) (fun c_88 => ?_) (fun c_88 => ?_)
              · have p_88 := b2i_eq c_88
                refine x_iconst dX10_about_95 (okI_c rfl) ?_
                refine x_callV [vI 0] dX10_about_96 kv_X10_73 rfl rfl hm (by omega) (Nat.le_of_ble_eq_true rfl) (by omega) (by omega) (k_X10_fine (d := 0) (S := S)  (hM)) (fun r1 h1 q1 => ?_)
                obtain ⟨rfl, hCz, hFz⟩ := q1
                exact x_ireturn dX10_about_99 rfl (by omega) (by omega) (outM (by rw [oAbout, cond_f (fun z => z.elim (fun y => y p_5) (fun y => by omega))]; rw [if_neg (by omega), if_neg (by omega), if_neg (by omega), if_neg (by omega)]; exact congrArg (fun z : Int => (z, sLa 0 S)) (b2i_f p_88)) hCz (MFr.trans MFr.refl hFz))
              · have p_88 := b2i_ne c_88
                refine x_iconst dX10_about_91 (okI_c rfl) ?_
                refine x_goto 96 dX10_about_92 (by decide) ?_
                refine x_callV [vI 1] dX10_about_96 kv_X10_73 rfl rfl hm (by omega) (Nat.le_of_ble_eq_true rfl) (by omega) (by omega) (k_X10_fine (d := 0) (S := S)  (hM)) (fun r1 h1 q1 => ?_)
                obtain ⟨rfl, hCz, hFz⟩ := q1
                exact x_ireturn dX10_about_99 rfl (by omega) (by omega) (outM (by rw [oAbout, cond_f (fun z => z.elim (fun y => y p_5) (fun y => by omega))]; rw [if_neg (by omega), if_neg (by omega), if_neg (by omega), if_neg (by omega)]; exact congrArg (fun z : Int => (z, sLa 0 S)) (b2i_t p_88)) hCz (MFr.trans MFr.refl hFz))
            · refine x_aload_n 0 dX10_about_74 rfl rfl ?_
              refine x_get 4 dX10_about_75 fl_X10_20 hm rfl ?_
              refine x_iload_n 1 dX10_about_78 rfl rfl ?_
              refine x_iaload dX10_about_79 hb4 (by omega) (by omega) ?_
              refine x_asI (y := (sK S f)) hcf.2.2.2.1 ?_
              refine x_goto 96 dX10_about_80 (by decide) ?_
              refine x_callV [vI ((sK S f))] dX10_about_96 kv_X10_73 rfl rfl hm (by omega) (Nat.le_of_ble_eq_true rfl) (by omega) (by omega) (k_X10_fine (d := 0) (S := S)  (hM)) (fun r1 h1 q1 => ?_)
              obtain ⟨rfl, hCz, hFz⟩ := q1
              exact x_ireturn dX10_about_99 rfl (by omega) (by omega) (outM (by rw [oAbout, cond_f (fun z => z.elim (fun y => y p_5) (fun y => by omega))]; rw [if_neg (by omega), if_neg (by omega), if_neg (by omega), if_pos (by omega)]; rfl) hCz (MFr.trans MFr.refl hFz))
          · refine x_aload_n 0 dX10_about_59 rfl rfl ?_
            refine x_get 3 dX10_about_60 fl_X10_16 hm rfl ?_
            refine x_iload_n 1 dX10_about_63 rfl rfl ?_
            refine x_laload dX10_about_64 hb3 (by omega) (by omega) ?_
            refine x_asJ (y := (sC S f)) hcf.2.2.1 ?_
            refine x_l2i dX10_about_65 (by unfold okI; omega) ?_
            refine x_goto 96 dX10_about_66 (by decide) ?_
            refine x_callV [vI ((sC S f))] dX10_about_96 kv_X10_73 rfl rfl hm (by omega) (Nat.le_of_ble_eq_true rfl) (by omega) (by omega) (k_X10_fine (d := 0) (S := S)  (hM)) (fun r1 h1 q1 => ?_)
            obtain ⟨rfl, hCz, hFz⟩ := q1
            exact x_ireturn dX10_about_99 rfl (by omega) (by omega) (outM (by rw [oAbout, cond_f (fun z => z.elim (fun y => y p_5) (fun y => by omega))]; rw [if_neg (by omega), if_neg (by omega), if_pos (by omega)]; rfl) hCz (MFr.trans MFr.refl hFz))
        · refine x_aload_n 0 dX10_about_45 rfl rfl ?_
          refine x_get 2 dX10_about_46 fl_X10_13 hm rfl ?_
          refine x_iload_n 1 dX10_about_49 rfl rfl ?_
          refine x_iaload dX10_about_50 hb2 (by omega) (by omega) ?_
          refine x_asI (y := (sD S f)) hcf.2.1 ?_
          refine x_goto 96 dX10_about_51 (by decide) ?_
          refine x_callV [vI ((sD S f))] dX10_about_96 kv_X10_73 rfl rfl hm (by omega) (Nat.le_of_ble_eq_true rfl) (by omega) (by omega) (k_X10_fine (d := 0) (S := S)  (hM)) (fun r1 h1 q1 => ?_)
          obtain ⟨rfl, hCz, hFz⟩ := q1
          exact x_ireturn dX10_about_99 rfl (by omega) (by omega) (outM (by rw [oAbout, cond_f (fun z => z.elim (fun y => y p_5) (fun y => by omega))]; rw [if_neg (by omega), if_pos (by omega)]; rfl) hCz (MFr.trans MFr.refl hFz))
      · refine x_aload_n 0 dX10_about_31 rfl rfl ?_
        refine x_get 1 dX10_about_32 fl_X10_7 hm rfl ?_
        refine x_iload_n 1 dX10_about_35 rfl rfl ?_
        refine x_iaload dX10_about_36 hb1 (by omega) (by omega) ?_
        refine x_asI (y := (sT S f)) hcf.1 ?_
        refine x_goto 96 dX10_about_37 (by decide) ?_
        refine x_callV [vI ((sT S f))] dX10_about_96 kv_X10_73 rfl rfl hm (by omega) (Nat.le_of_ble_eq_true rfl) (by omega) (by omega) (k_X10_fine (d := 0) (S := S)  (hM)) (fun r1 h1 q1 => ?_)
        obtain ⟨rfl, hCz, hFz⟩ := q1
        exact x_ireturn dX10_about_99 rfl (by omega) (by omega) (outM (by rw [oAbout, cond_f (fun z => z.elim (fun y => y p_5) (fun y => by omega))]; rw [if_pos (by omega)]; rfl) hCz (MFr.trans MFr.refl hFz))
    · have p_17 := b2i_eq c_17
      refine x_aload_n 0 dX10_about_20 rfl rfl ?_
      refine x_iconst dX10_about_21 (okI_c rfl) ?_
      refine x_callV [vI ((-1))] dX10_about_22 kv_X10_58 rfl rfl hm (by omega) (Nat.le_of_ble_eq_true rfl) (by omega) (by omega) (k_X10_refuse (d := 0) (S := S)  (hM)) (fun r1 h1 q1 => ?_)
      obtain ⟨rfl, hCz, hFz⟩ := q1
      exact x_ireturn dX10_about_25 rfl (by omega) (by omega) (outM (by rw [oAbout, cond_t (by first | exact Or.inl p_5 | exact Or.inr (by omega))]; rfl) hCz (MFr.trans MFr.refl hFz))
set_option maxRecDepth 100000 in
set_option maxHeartbeats 4000000 in
theorem k_X10_rate {G : aG} {d : Nat} (hd : 5 ≤ d) {m b1 b2 b3 b4 b5 b6 b7 b8 b9 lo hi : Nat} {S : aS} {nc : Nat} {h : aH} (hM : MRel m b1 b2 b3 b4 b5 b6 b7 b8 b9 lo hi S h) (hS : SOk nc S) {f : Int} {w : Int} : MC G mX10_rate d 0 0 [vA m, vI f, vI w] h (MOut m b1 b2 b3 b4 b5 b6 b7 b8 b9 lo hi h vI (oRate f w S)) := by
  obtain ⟨⟨o0, o1, o2, o3, o4, o5, o6, o7, o8, o9, oA⟩, hm, ⟨gT, gD, gC, gK, gA, hb1, hb2, hb3, hb4, hb5, hcu⟩, ⟨fr, hb6, hrw⟩, ⟨sm, hb7, hsm⟩, ⟨g8, hb8, htl⟩, ⟨gw, hb9⟩⟩ := id hM
  obtain ⟨⟨s1, s2⟩, s3, ⟨s4, s5⟩, ⟨s6, s7, s8⟩, s9, ⟨s10, s11⟩, s12⟩ := id hS
  refine MC.of (by decide) (Nat.le_of_ble_eq_true rfl) (fun ok okh => ?_)
  show EX G mX10_rate d 0 0 _ 0 [(0, vA m), (1, vI f), (2, vI w)] [] h 0 0
  refine x_aload_n 0 dX10_rate_0 rfl rfl ?_
  refine x_iload_n 1 dX10_rate_1 rfl rfl ?_
  refine x_callV [vI f] dX10_rate_2 kv_X10_109 rfl rfl hm (by omega) (Nat.le_of_ble_eq_true rfl) (by omega) (by omega) (k_X10_isCurve (d := 1) (by omega) hM hS (f := f)) (after_ret ?_)
  refine x_if_eq 18 dX10_rate_5 (by decide) (fun c_5 => ?_) (fun c_5 => ?_)
  · have p_5 := b2i_eq c_5
    refine x_aload_n 0 dX10_rate_18 rfl rfl ?_
    refine x_iconst dX10_rate_19 (okI_c rfl) ?_
    refine x_callV [vI ((-1))] dX10_rate_20 kv_X10_58 rfl rfl hm (by omega) (Nat.le_of_ble_eq_true rfl) (by omega) (by omega) (k_X10_refuse (d := 0) (S := S)  (hM)) (fun r1 h1 q1 => ?_)
    obtain ⟨rfl, hCz, hFz⟩ := q1
    exact x_ireturn dX10_rate_23 rfl (by omega) (by omega) (outM (by rw [oRate, cond_t (by first | exact Or.inl p_5 | exact Or.inr (by omega))]; rfl) hCz (MFr.trans MFr.refl hFz))
  · have p_5 := b2i_ne c_5
    refine x_iload_n 2 dX10_rate_8 rfl rfl ?_
    refine x_i2l dX10_rate_9 ?_
    refine x_lconst (x := 0) dX10_rate_10 (okJ_c rfl) rfl ?_
    refine x_lconst (x := 1) dX10_rate_11 (okJ_c rfl) rfl ?_
    refine x_callS [vJ w, vJ 0, vJ 1] dX10_rate_12 ks_X10_50 rfl rfl (by omega) (Nat.le_of_ble_eq_true rfl) (by omega) (by omega) (k_X10_in (d := 0)) (after_ret ?_)
    refine x_if_ne 24 dX10_rate_15 (by decide) (fun c_15 => ?_) (fun c_15 => ?_)
    · have p_15 := b2i_ne c_15
      have hf := p_5
      have hcf := hcu f hf.1 hf.2
      obtain ⟨hT0f, hT2f, hD0f, hD6f, hC0f, hC1f, hAf, hMf, hWf⟩ := id (s3 f hf.1 hf.2)
      have hlf := hf.2
      have hzf := hf.1
      refine x_aload_n 0 dX10_rate_24 rfl rfl ?_
      refine x_get 3 dX10_rate_25 fl_X10_16 hm rfl ?_
      refine x_iload_n 1 dX10_rate_28 rfl rfl ?_
      refine x_laload dX10_rate_29 hb3 (by omega) (by omega) ?_
      refine x_asJ (y := (sC S f)) hcf.2.2.1 ?_
      refine x_l2i dX10_rate_30 (by unfold okI; omega) ?_
      refine x_aload_n 0 dX10_rate_31 rfl rfl ?_
      refine x_get 2 dX10_rate_32 fl_X10_13 hm rfl ?_
      refine x_iload_n 1 dX10_rate_35 rfl rfl ?_
      refine x_iaload dX10_rate_36 hb2 (by omega) (by omega) ?_
      refine x_asI (y := (sD S f)) hcf.2.1 ?_
      refine x_callS [vI ((sC S f)), vI ((sD S f))] dX10_rate_37 ks_X10_91 rfl rfl (by omega) (Nat.le_of_ble_eq_true rfl) (by omega) (by omega) (k_X10_divisor (d := 0) (a := sC S f) (b := sD S f) (by omega) (by omega)) (after_ret ?_)
      refine x_nmI (fun x1 e_x1 => ?_)
      refine x_istore_n (L' := [(3, vI x1), (0, vA m), (1, vI f), (2, vI w)]) dX10_rate_40 rfl (Nat.le_of_ble_eq_true rfl) rfl ?_
      have hg1 : 1 ≤ x1 := by rw [e_x1]; exact gcd_nn (sC S f) (sD S f) (by omega)
      refine x_aload_n 1 dX10_rate_41 rfl rfl ?_
      refine x_iload_n 3 dX10_rate_42 rfl rfl ?_
      refine x_if_ne 58 dX10_rate_43 (by decide) (fun c_43 => ?_) (fun c_43 => ?_)
      · refine x_aload_n 1 dX10_rate_58 rfl rfl ?_
        refine x_get 2 dX10_rate_59 fl_X10_13 hm rfl ?_
        refine x_iload_n 2 dX10_rate_62 rfl rfl ?_
        refine x_iaload dX10_rate_63 hb2 (by omega) (by omega) ?_
        refine x_asI (y := (sD S f)) hcf.2.1 ?_
        refine x_iload_n 0 dX10_rate_64 rfl rfl ?_
        refine x_idiv dX10_rate_65 (by omega) (by omega) ?_
        refine x_callV [vI (((sD S f)) / x1)] dX10_rate_66 kv_X10_73 rfl rfl hm (by omega) (Nat.le_of_ble_eq_true rfl) (by omega) (by omega) (k_X10_fine (d := 0) (S := S)  (hM)) (fun r1 h1 q1 => ?_)
        obtain ⟨rfl, hCz, hFz⟩ := q1
        exact x_ireturn dX10_rate_69 rfl (by omega) (by omega) (outM (by rw [oRate, cond_f (fun z => z.elim (fun y => y p_5) (fun y => by omega)), ← e_x1]; rw [if_neg (show ¬ w = 0 by omega)]; rfl) hCz (MFr.trans MFr.refl hFz))
      · refine x_aload_n 1 dX10_rate_46 rfl rfl ?_
        refine x_get 3 dX10_rate_47 fl_X10_16 hm rfl ?_
        refine x_iload_n 2 dX10_rate_50 rfl rfl ?_
        refine x_laload dX10_rate_51 hb3 (by omega) (by omega) ?_
        refine x_asJ (y := (sC S f)) hcf.2.2.1 ?_
        refine x_l2i dX10_rate_52 (by unfold okI; omega) ?_
        refine x_iload_n 0 dX10_rate_53 rfl rfl ?_
        refine x_idiv dX10_rate_54 (by omega) (by omega) ?_
        refine x_goto 66 dX10_rate_55 (by decide) ?_
        refine x_callV [vI (((sC S f)) / x1)] dX10_rate_66 kv_X10_73 rfl rfl hm (by omega) (Nat.le_of_ble_eq_true rfl) (by omega) (by omega) (k_X10_fine (d := 0) (S := S)  (hM)) (fun r1 h1 q1 => ?_)
        obtain ⟨rfl, hCz, hFz⟩ := q1
        exact x_ireturn dX10_rate_69 rfl (by omega) (by omega) (outM (by rw [oRate, cond_f (fun z => z.elim (fun y => y p_5) (fun y => by omega)), ← e_x1]; rw [if_pos (show w = 0 by omega)]; rfl) hCz (MFr.trans MFr.refl hFz))
    · have p_15 := b2i_eq c_15
      refine x_aload_n 0 dX10_rate_18 rfl rfl ?_
      refine x_iconst dX10_rate_19 (okI_c rfl) ?_
      refine x_callV [vI ((-1))] dX10_rate_20 kv_X10_58 rfl rfl hm (by omega) (Nat.le_of_ble_eq_true rfl) (by omega) (by omega) (k_X10_refuse (d := 0) (S := S)  (hM)) (fun r1 h1 q1 => ?_)
      obtain ⟨rfl, hCz, hFz⟩ := q1
      exact x_ireturn dX10_rate_23 rfl (by omega) (by omega) (outM (by rw [oRate, cond_t (by first | exact Or.inl p_5 | exact Or.inr (by omega))]; rfl) hCz (MFr.trans MFr.refl hFz))
theorem same_all {F G : Int → Int} {T1 T2 M p a b : Int} (hp : 1 ≤ p) (h1 : T1 ≤ M) (h2 : T2 ≤ M) (hM : 0 ≤ M) (hF : Per F T1 p a) (hG : Per G T2 p b) (h : ∀ u : Int, 0 ≤ u → u ≤ M + p → F u = G u) {t : Int} (ht : 0 ≤ t) : F t = G t := by
  have e1 := hF M h1
  have e2 := hG M h2
  have e3 := h M hM (by omega)
  have e4 := h (M + p) (by omega) (by omega)
  by_cases q : t < M
  · exact h t ht (by omega)
  · exact turn_ind (Q := fun t => F t = G t) hp (a := M) (fun t q1 q2 => h t (by omega) (by omega)) (fun t q1 q2 => by
      have := hF t (by omega)
      have := hG t (by omega)
      show F (t + p) = G (t + p)
      have : F t = G t := q2
      omega) t (by omega)
theorem unl_t {F G : Int → Int} {t last : Int} (h0 : 0 ≤ t) (h1 : t ≤ last) (hne : F t ≠ G t) (h : ∀ u : Int, 0 ≤ u → u < t → F u = G u) : unlikeS F G last = t := by
  refine (First.eq (F := dif F G) (Or.inr ⟨h0, h1, ?_, fun u q1 q2 => ?_⟩)).symm
  · rw [dif, if_neg hne]; exact Int.le_refl 1
  · rw [dif, if_pos (h u q1 q2)]; omega
theorem unl_f {F G : Int → Int} {last : Int} (h : ∀ u : Int, 0 ≤ u → u ≤ last → F u = G u) : unlikeS F G last = -1 := by
  refine (First.eq (F := dif F G) (Or.inl ⟨rfl, fun u q1 q2 => ?_⟩)).symm
  rw [dif, if_pos (h u q1 q2)]; omega
set_option maxRecDepth 100000 in
set_option maxHeartbeats 4000000 in
theorem k_X10_unlike {G : aG} {d : Nat} (hd : 5 ≤ d) {m b1 b2 b3 b4 b5 b6 b7 b8 b9 lo hi : Nat} {S : aS} {nc : Nat} {h : aH} (hM : MRel m b1 b2 b3 b4 b5 b6 b7 b8 b9 lo hi S h) (hS : SOk nc S) {f : Int} {g : Int} : MC G mX10_unlike d 0 0 [vA m, vI f, vI g] h (MOut m b1 b2 b3 b4 b5 b6 b7 b8 b9 lo hi h vI (oUnlike f g S)) := by
  obtain ⟨⟨o0, o1, o2, o3, o4, o5, o6, o7, o8, o9, oA⟩, hm, ⟨gT, gD, gC, gK, gA, hb1, hb2, hb3, hb4, hb5, hcu⟩, ⟨fr, hb6, hrw⟩, ⟨sm, hb7, hsm⟩, ⟨g8, hb8, htl⟩, ⟨gw, hb9⟩⟩ := id hM
  obtain ⟨⟨s1, s2⟩, s3, ⟨s4, s5⟩, ⟨s6, s7, s8⟩, s9, ⟨s10, s11⟩, s12⟩ := id hS
  refine MC.of (by decide) (Nat.le_of_ble_eq_true rfl) (fun ok okh => ?_)
  show EX G mX10_unlike d 0 0 _ 0 [(0, vA m), (1, vI f), (2, vI g)] [] h 0 0
  refine x_aload_n 0 dX10_unlike_0 rfl rfl ?_
  refine x_iload_n 1 dX10_unlike_1 rfl rfl ?_
  refine x_callV [vI f] dX10_unlike_2 kv_X10_109 rfl rfl hm (by omega) (Nat.le_of_ble_eq_true rfl) (by omega) (by omega) (k_X10_isCurve (d := 1) (by omega) hM hS (f := f)) (after_ret ?_)
  refine x_if_eq 16 dX10_unlike_5 (by decide) (fun c_5 => ?_) (fun c_5 => ?_)
  · have p_5 := b2i_eq c_5
    refine x_aload_n 0 dX10_unlike_16 rfl rfl ?_
    refine x_iconst dX10_unlike_17 (okI_c rfl) ?_
    refine x_put 13 dX10_unlike_18 pu_X10_42 hm rfl rfl (Nat.le_of_ble_eq_true rfl) ?_
    refine x_bipush dX10_unlike_21 (okI_c rfl) (by decide +kernel) ?_
    exact x_ireturn dX10_unlike_23 rfl (by decide) (by decide) (outM (S2 := sLa (-1) S) (by rw [oUnlike, cond_t (by first | exact Or.inl p_5 | exact Or.inr p_13)]; rfl) ⟨⟨o0, o1, o2, o3, o4, o5, o6, o7, o8, o9, oA⟩, (hset_eq _ _ _), ⟨gT, gD, gC, gK, gA, ((hset_ne _ _ (by omega)).trans hb1), ((hset_ne _ _ (by omega)).trans hb2), ((hset_ne _ _ (by omega)).trans hb3), ((hset_ne _ _ (by omega)).trans hb4), ((hset_ne _ _ (by omega)).trans hb5), hcu⟩, ⟨fr, ((hset_ne _ _ (by omega)).trans hb6), hrw⟩, ⟨sm, ((hset_ne _ _ (by omega)).trans hb7), hsm⟩, ⟨g8, ((hset_ne _ _ (by omega)).trans hb8), htl⟩, ⟨_, ((hset_ne _ _ (by omega)).trans hb9)⟩⟩ (MFr.set MFr.refl (by omega) (by omega)))
  · have p_5 := b2i_ne c_5
    refine x_aload_n 0 dX10_unlike_8 rfl rfl ?_
    refine x_iload_n 2 dX10_unlike_9 rfl rfl ?_
    refine x_callV [vI g] dX10_unlike_10 kv_X10_109 rfl rfl hm (by omega) (Nat.le_of_ble_eq_true rfl) (by omega) (by omega) (k_X10_isCurve (d := 1) (by omega) hM hS (f := g)) (after_ret ?_)
    refine x_if_ne 24 dX10_unlike_13 (by decide) (fun c_13 => ?_) (fun c_13 => ?_)
    · have p_13 := b2i_ne c_13
      have hf := p_5
      have hg := p_13
      have hcf := hcu f hf.1 hf.2
      obtain ⟨hT0f, hT2f, hD0f, hD6f, hC0f, hC1f, hAf, hMf, hWf⟩ := id (s3 f hf.1 hf.2)
      have hlf := hf.2
      have hzf := hf.1
      have hcg := hcu g hg.1 hg.2
      obtain ⟨hT0g, hT2g, hD0g, hD6g, hC0g, hC1g, hAg, hMg, hWg⟩ := id (s3 g hg.1 hg.2)
      have hlg := hg.2
      have hzg := hg.1
      refine x_aload_n 0 dX10_unlike_24 rfl rfl ?_
      refine x_iload_n 1 dX10_unlike_25 rfl rfl ?_
      refine x_iload_n 2 dX10_unlike_26 rfl rfl ?_
      refine x_callV [vI f, vI g] dX10_unlike_27 kv_X10_113 rfl rfl hm (by omega) (Nat.le_of_ble_eq_true rfl) (by omega) (by omega) (k_X10_together (d := 1) (by omega) hM hS hf hg) (after_ret ?_)
      refine x_nmI (fun x1 e_x1 => ?_)
      refine x_istore_n (L' := [(3, vI x1), (0, vA m), (1, vI f), (2, vI g)]) dX10_unlike_30 rfl (Nat.le_of_ble_eq_true rfl) rfl ?_
      have hxn : ¬ x1 ≤ 60 → sP S f g = -1 := fun q => by rw [sP, lcmS, if_neg (by omega)]
      refine x_iload_n 0 dX10_unlike_31 rfl rfl ?_
      refine x_bipush dX10_unlike_32 (okI_c rfl) (by decide +kernel) ?_
      refine x_icmp_le 46 dX10_unlike_34 (by decide) (fun c_34 => ?_) (fun c_34 => ?_)
      · have hx1 : sP S f g = x1 := by rw [sP, lcmS, if_pos (by omega), e_x1]
        have hp := lcmS_f (a := sD S f) (b := sD S g) hD0f hD0g (by rw [show lcmS (sD S f) (sD S g) = x1 from hx1]; omega)
        rw [show lcmS (sD S f) (sD S g) = x1 from hx1] at hp
        obtain ⟨hp1, hp2, hp3, hp4⟩ := hp
        have hmx : sMx S f g = max (sT S f) (sT S g) + x1 := by rw [sMx, hx1]
        have hPf : Per (sF S f) (sT S f) x1 (sGi S f x1) := cval_Per hD0f (by omega) hp3
        have hPg : Per (sF S g) (sT S g) x1 (sGi S g x1) := cval_Per hD0g (by omega) hp4
        refine x_aload_n 1 dX10_unlike_46 rfl rfl ?_
        refine x_iload_n 2 dX10_unlike_47 rfl rfl ?_
        refine x_iload_n 3 dX10_unlike_48 rfl rfl ?_
        refine x_callV [vI f, vI g] dX10_unlike_49 kv_X10_141 rfl rfl hm (by omega) (Nat.le_of_ble_eq_true rfl) (by omega) (by omega) (k_X10_latest (d := 0) hM hS hf hg) (after_ret ?_)
        refine x_iconst dX10_unlike_52 (okI_c rfl) ?_
        refine x_iload_n 0 dX10_unlike_53 rfl rfl ?_
        refine x_imul dX10_unlike_54 (by unfold okI; omega) ?_
        refine x_iadd dX10_unlike_55 (by unfold okI; omega) ?_
        refine x_nmI (fun n e_n => ?_)
        refine x_istore (L' := [(4, vI n), (3, vI x1), (0, vA m), (1, vI f), (2, vI g)]) dX10_unlike_56 (Nat.le_of_ble_eq_true rfl) rfl ?_
        refine x_iconst dX10_unlike_58 (okI_c rfl) ?_
        refine x_istore (L' := [(5, vI 0), (4, vI n), (3, vI x1), (0, vA m), (1, vI f), (2, vI g)]) dX10_unlike_59 (Nat.le_of_ble_eq_true rfl) rfl ?_
        have loop_61 : ∀ (k_61 : Nat) (t : Int) , (n - t).toNat < k_61 → (0 ≤ t) → (t ≤ n) → (∀ u : Int, 0 ≤ u → u < t → sF S f u = sF S g u) → EX G mX10_unlike d 0 0 (MOut m b1 b2 b3 b4 b5 b6 b7 b8 b9 lo hi h vI (oUnlike f g S)) 61 [(0, vA m), (1, vI f), (2, vI g), (3, vI x1), (4, vI n), (5, vI t)] [] h 0 0 := by
          intro k_61
          induction k_61 with
          | zero => intro t hm; exact absurd hm (Nat.not_lt_zero _)
          | succ k_61 ih_61 =>
            intro t hm_61 ht0 ht1 hw
            refine x_iload 5 dX10_unlike_61 rfl ?_
            refine x_iload 4 dX10_unlike_63 rfl ?_
            refine x_icmp_ge 101 dX10_unlike_65 (by decide) (fun c_65 => ?_) (fun c_65 => ?_)
            · refine x_aload_n 0 dX10_unlike_101 rfl rfl ?_
              refine x_iconst dX10_unlike_102 (okI_c rfl) ?_
              refine x_callV [vI ((-1))] dX10_unlike_103 kv_X10_73 rfl rfl hm (by omega) (Nat.le_of_ble_eq_true rfl) (by omega) (by omega) (k_X10_fine (d := 0) (S := S)  (hM)) (fun r1 h1 q1 => ?_)
              obtain ⟨rfl, hCz, hFz⟩ := q1
              exact x_ireturn dX10_unlike_106 rfl (by omega) (by omega) (outM (by rw [oUnlike, cond_f (fun z => z.elim (fun y => y p_5) (fun y => y p_13)), if_neg (show ¬ sP S f g = -1 by omega), unl_f (fun u q1 q2 => hw u q1 (by omega))]; rfl) hCz (MFr.trans MFr.refl hFz))
            · refine x_aload_n 0 dX10_unlike_68 rfl rfl ?_
              refine x_iload_n 1 dX10_unlike_69 rfl rfl ?_
              refine x_iload 5 dX10_unlike_70 rfl ?_
              refine x_i2l dX10_unlike_72 ?_
              refine x_callV [vI f, vJ t] dX10_unlike_73 kv_X10_95 rfl rfl hm (by omega) (Nat.le_of_ble_eq_true rfl) (by omega) (by omega) (k_X10_value (d := 0) hM hS (f := f) (t := t) hf (by omega) (by omega)) (after_ret ?_)
              refine x_aload_n 0 dX10_unlike_76 rfl rfl ?_
              refine x_iload_n 2 dX10_unlike_77 rfl rfl ?_
              refine x_iload 5 dX10_unlike_78 rfl ?_
              refine x_i2l dX10_unlike_80 ?_
              refine x_callV [vI g, vJ t] dX10_unlike_81 kv_X10_95 rfl rfl hm (by omega) (Nat.le_of_ble_eq_true rfl) (by omega) (by omega) (k_X10_value (d := 0) hM hS (f := g) (t := t) hg (by omega) (by omega)) (after_ret ?_)
              refine x_lc_eq 95 dX10_unlike_84 dX10_unlike_85 (by decide) (fun c_84 => ?_) (fun c_84 => ?_)
              · refine x_iinc 5 (L' := [(5, vI (t + 1)), (0, vA m), (1, vI f), (2, vI g), (3, vI x1), (4, vI n)]) dX10_unlike_95 rfl (by unfold okI; omega) (Nat.le_of_ble_eq_true rfl) rfl ?_
                refine x_goto 61 dX10_unlike_98 (by decide) ?_
                exact EX.pick [1, 2, 3, 4, 5, 0] rfl (ih_61 (t + 1)  (by omega) (by omega) (by omega) (fun u q1 q2 => by by_cases q : u = t; subst q; exact c_84; exact hw u q1 (by omega)))
              · refine x_aload_n 0 dX10_unlike_88 rfl rfl ?_
                refine x_iload 5 dX10_unlike_89 rfl ?_
                refine x_callV [vI t] dX10_unlike_91 kv_X10_73 rfl rfl hm (by omega) (Nat.le_of_ble_eq_true rfl) (by omega) (by omega) (k_X10_fine (d := 0) (S := S)  (hM)) (fun r1 h1 q1 => ?_)
                obtain ⟨rfl, hCz, hFz⟩ := q1
                exact x_ireturn dX10_unlike_94 rfl (by omega) (by omega) (outM (by rw [oUnlike, cond_f (fun z => z.elim (fun y => y p_5) (fun y => y p_13)), if_neg (show ¬ sP S f g = -1 by omega), unl_t ht0 (by refine Classical.byContradiction fun z => c_84 (same_all hp1 (Int.le_max_left _ _) (Int.le_max_right _ _) (by omega) hPf hPg (fun u q1 q2 => hw u q1 (by omega)) ht0)) c_84 hw]; rfl) hCz (MFr.trans MFr.refl hFz))
        exact EX.pick [3, 4, 5, 2, 1, 0] rfl (loop_61 ((n - (0 : Int)).toNat + 1) 0  (Nat.lt_succ_self _) (by omega) (by omega) (fun u q1 q2 => by omega))
      · refine x_aload_n 1 dX10_unlike_37 rfl rfl ?_
        refine x_bipush dX10_unlike_38 (okI_c rfl) (by decide +kernel) ?_
        refine x_put 13 dX10_unlike_40 pu_X10_42 hm rfl rfl (Nat.le_of_ble_eq_true rfl) ?_
        refine x_bipush dX10_unlike_43 (okI_c rfl) (by decide +kernel) ?_
        exact x_ireturn dX10_unlike_45 rfl (by decide) (by decide) (outM (S2 := sLa (-4) S) (by rw [oUnlike, cond_f (fun z => z.elim (fun y => y p_5) (fun y => y p_13)), if_pos (hxn (by omega))]; rfl) ⟨⟨o0, o1, o2, o3, o4, o5, o6, o7, o8, o9, oA⟩, (hset_eq _ _ _), ⟨gT, gD, gC, gK, gA, ((hset_ne _ _ (by omega)).trans hb1), ((hset_ne _ _ (by omega)).trans hb2), ((hset_ne _ _ (by omega)).trans hb3), ((hset_ne _ _ (by omega)).trans hb4), ((hset_ne _ _ (by omega)).trans hb5), hcu⟩, ⟨fr, ((hset_ne _ _ (by omega)).trans hb6), hrw⟩, ⟨sm, ((hset_ne _ _ (by omega)).trans hb7), hsm⟩, ⟨g8, ((hset_ne _ _ (by omega)).trans hb8), htl⟩, ⟨_, ((hset_ne _ _ (by omega)).trans hb9)⟩⟩ (MFr.set MFr.refl (by omega) (by omega)))
    · have p_13 := b2i_eq c_13
      refine x_aload_n 0 dX10_unlike_16 rfl rfl ?_
      refine x_iconst dX10_unlike_17 (okI_c rfl) ?_
      refine x_put 13 dX10_unlike_18 pu_X10_42 hm rfl rfl (Nat.le_of_ble_eq_true rfl) ?_
      refine x_bipush dX10_unlike_21 (okI_c rfl) (by decide +kernel) ?_
      exact x_ireturn dX10_unlike_23 rfl (by decide) (by decide) (outM (S2 := sLa (-1) S) (by rw [oUnlike, cond_t (by first | exact Or.inl p_5 | exact Or.inr p_13)]; rfl) ⟨⟨o0, o1, o2, o3, o4, o5, o6, o7, o8, o9, oA⟩, (hset_eq _ _ _), ⟨gT, gD, gC, gK, gA, ((hset_ne _ _ (by omega)).trans hb1), ((hset_ne _ _ (by omega)).trans hb2), ((hset_ne _ _ (by omega)).trans hb3), ((hset_ne _ _ (by omega)).trans hb4), ((hset_ne _ _ (by omega)).trans hb5), hcu⟩, ⟨fr, ((hset_ne _ _ (by omega)).trans hb6), hrw⟩, ⟨sm, ((hset_ne _ _ (by omega)).trans hb7), hsm⟩, ⟨g8, ((hset_ne _ _ (by omega)).trans hb8), htl⟩, ⟨_, ((hset_ne _ _ (by omega)).trans hb9)⟩⟩ (MFr.set MFr.refl (by omega) (by omega)))
set_option maxRecDepth 100000 in
set_option maxHeartbeats 4000000 in
theorem k_X10_below {G : aG} {d : Nat} (hd : 5 ≤ d) {m b1 b2 b3 b4 b5 b6 b7 b8 b9 lo hi : Nat} {S : aS} {nc : Nat} {h : aH} (hM : MRel m b1 b2 b3 b4 b5 b6 b7 b8 b9 lo hi S h) (hS : SOk nc S) {f : Int} {g : Int} : MC G mX10_below d 0 0 [vA m, vI f, vI g] h (MOut m b1 b2 b3 b4 b5 b6 b7 b8 b9 lo hi h vI (oBelow f g S)) := by
  obtain ⟨⟨o0, o1, o2, o3, o4, o5, o6, o7, o8, o9, oA⟩, hm, ⟨gT, gD, gC, gK, gA, hb1, hb2, hb3, hb4, hb5, hcu⟩, ⟨fr, hb6, hrw⟩, ⟨sm, hb7, hsm⟩, ⟨g8, hb8, htl⟩, ⟨gw, hb9⟩⟩ := id hM
  obtain ⟨⟨s1, s2⟩, s3, ⟨s4, s5⟩, ⟨s6, s7, s8⟩, s9, ⟨s10, s11⟩, s12⟩ := id hS
  refine MC.of (by decide) (Nat.le_of_ble_eq_true rfl) (fun ok okh => ?_)
  show EX G mX10_below d 0 0 _ 0 [(0, vA m), (1, vI f), (2, vI g)] [] h 0 0
  refine x_aload_n 0 dX10_below_0 rfl rfl ?_
  refine x_iload_n 1 dX10_below_1 rfl rfl ?_
  refine x_callV [vI f] dX10_below_2 kv_X10_109 rfl rfl hm (by omega) (Nat.le_of_ble_eq_true rfl) (by omega) (by omega) (k_X10_isCurve (d := 1) (by omega) hM hS (f := f)) (after_ret ?_)
  refine x_if_eq 16 dX10_below_5 (by decide) (fun c_5 => ?_) (fun c_5 => ?_)
  · have p_5 := b2i_eq c_5
    refine x_aload_n 0 dX10_below_16 rfl rfl ?_
    refine x_iconst dX10_below_17 (okI_c rfl) ?_
    refine x_callV [vI ((-1))] dX10_below_18 kv_X10_58 rfl rfl hm (by omega) (Nat.le_of_ble_eq_true rfl) (by omega) (by omega) (k_X10_refuse (d := 0) (S := S)  (hM)) (fun r1 h1 q1 => ?_)
    obtain ⟨rfl, hCz, hFz⟩ := q1
    exact x_ireturn dX10_below_21 rfl (by omega) (by omega) (outM (by rw [oBelow, cond_t (by first | exact Or.inl p_5 | exact Or.inr p_13)]; rfl) hCz (MFr.trans MFr.refl hFz))
  · have p_5 := b2i_ne c_5
    refine x_aload_n 0 dX10_below_8 rfl rfl ?_
    refine x_iload_n 2 dX10_below_9 rfl rfl ?_
    refine x_callV [vI g] dX10_below_10 kv_X10_109 rfl rfl hm (by omega) (Nat.le_of_ble_eq_true rfl) (by omega) (by omega) (k_X10_isCurve (d := 1) (by omega) hM hS (f := g)) (after_ret ?_)
    refine x_if_ne 22 dX10_below_13 (by decide) (fun c_13 => ?_) (fun c_13 => ?_)
    · have p_13 := b2i_ne c_13
      have hf := p_5
      have hg := p_13
      have hcf := hcu f hf.1 hf.2
      obtain ⟨hT0f, hT2f, hD0f, hD6f, hC0f, hC1f, hAf, hMf, hWf⟩ := id (s3 f hf.1 hf.2)
      have hlf := hf.2
      have hzf := hf.1
      have hcg := hcu g hg.1 hg.2
      obtain ⟨hT0g, hT2g, hD0g, hD6g, hC0g, hC1g, hAg, hMg, hWg⟩ := id (s3 g hg.1 hg.2)
      have hlg := hg.2
      have hzg := hg.1
      refine x_aload_n 0 dX10_below_22 rfl rfl ?_
      refine x_iload_n 1 dX10_below_23 rfl rfl ?_
      refine x_iload_n 2 dX10_below_24 rfl rfl ?_
      refine x_callV [vI f, vI g] dX10_below_25 kv_X10_113 rfl rfl hm (by omega) (Nat.le_of_ble_eq_true rfl) (by omega) (by omega) (k_X10_together (d := 1) (by omega) hM hS hf hg) (after_ret ?_)
      refine x_nmI (fun x1 e_x1 => ?_)
      refine x_istore_n (L' := [(3, vI x1), (0, vA m), (1, vI f), (2, vI g)]) dX10_below_28 rfl (Nat.le_of_ble_eq_true rfl) rfl ?_
      have hxn : ¬ x1 ≤ 60 → sP S f g = -1 := fun q => by rw [sP, lcmS, if_neg (by omega)]
      refine x_iload_n 0 dX10_below_29 rfl rfl ?_
      refine x_bipush dX10_below_30 (okI_c rfl) (by decide +kernel) ?_
      refine x_icmp_le 42 dX10_below_32 (by decide) (fun c_32 => ?_) (fun c_32 => ?_)
      · have hx1 : sP S f g = x1 := by rw [sP, lcmS, if_pos (by omega), e_x1]
        have hp := lcmS_f (a := sD S f) (b := sD S g) hD0f hD0g (by rw [show lcmS (sD S f) (sD S g) = x1 from hx1]; omega)
        rw [show lcmS (sD S f) (sD S g) = x1 from hx1] at hp
        obtain ⟨hp1, hp2, hp3, hp4⟩ := hp
        have hmx : sMx S f g = max (sT S f) (sT S g) + x1 := by rw [sMx, hx1]
        have hPf : Per (sF S f) (sT S f) x1 (sGi S f x1) := cval_Per hD0f (by omega) hp3
        have hPg : Per (sF S g) (sT S g) x1 (sGi S g x1) := cval_Per hD0g (by omega) hp4
        refine x_aload_n 1 dX10_below_42 rfl rfl ?_
        refine x_iload_n 2 dX10_below_43 rfl rfl ?_
        refine x_iload_n 0 dX10_below_44 rfl rfl ?_
        refine x_callV [vI f, vI x1] dX10_below_45 kv_X10_116 rfl rfl hm (by omega) (Nat.le_of_ble_eq_true rfl) (by omega) (by omega) (k_X10_gainIn (d := 0) hM hS (f := f) (p := x1) hf (by omega) (by omega)) (after_ret ?_)
        refine x_aload_n 1 dX10_below_48 rfl rfl ?_
        refine x_iload_n 3 dX10_below_49 rfl rfl ?_
        refine x_iload_n 0 dX10_below_50 rfl rfl ?_
        refine x_callV [vI g, vI x1] dX10_below_51 kv_X10_116 rfl rfl hm (by omega) (Nat.le_of_ble_eq_true rfl) (by omega) (by omega) (k_X10_gainIn (d := 0) hM hS (f := g) (p := x1) hg (by omega) (by omega)) (after_ret ?_)
        refine x_lc_gt 62 dX10_below_54 dX10_below_55 (by decide) (fun c_54 => ?_) (fun c_54 => ?_)
        · refine x_iconst dX10_below_62 (okI_c rfl) ?_
          refine x_istore (L' := [(4, vI 0), (3, vI x1), (0, vA m), (1, vI f), (2, vI g)]) dX10_below_63 (Nat.le_of_ble_eq_true rfl) rfl ?_
          refine x_iconst dX10_below_65 (okI_c rfl) ?_
          refine x_istore (L' := [(5, vI 0), (4, vI 0), (3, vI x1), (0, vA m), (1, vI f), (2, vI g)]) dX10_below_66 (Nat.le_of_ble_eq_true rfl) rfl ?_
          have loop_68 : ∀ (k_68 : Nat) (ie : Int) (t : Int) , (max (sT S f) (sT S g) + x1 - t).toNat < k_68 → (0 ≤ t) → (t ≤ max (sT S f) (sT S g) + x1) → (ie = b2i (sGi S f x1 ≤ sGi S g x1 ∧ ∀ u : Int, 0 ≤ u → u < t → sF S f u ≤ sF S g u)) → EX G mX10_below d 0 0 (MOut m b1 b2 b3 b4 b5 b6 b7 b8 b9 lo hi h vI (oBelow f g S)) 68 [(0, vA m), (1, vI f), (2, vI g), (3, vI x1), (4, vI ie), (5, vI t)] [] h 0 0 := by
            intro k_68
            induction k_68 with
            | zero => intro ie t hm; exact absurd hm (Nat.not_lt_zero _)
            | succ k_68 ih_68 =>
              intro ie t hm_68 ht0 ht1 hie
              refine x_iload 5 dX10_below_68 rfl ?_
              refine x_aload_n 0 dX10_below_70 rfl rfl ?_
              refine x_iload_n 1 dX10_below_71 rfl rfl ?_
              refine x_iload_n 2 dX10_below_72 rfl rfl ?_
              refine x_callV [vI f, vI g] dX10_below_73 kv_X10_141 rfl rfl hm (by omega) (Nat.le_of_ble_eq_true rfl) (by omega) (by omega) (k_X10_latest (d := 0) hM hS hf hg) (after_ret ?_)
              refine x_iload_n 3 dX10_below_76 rfl rfl ?_
              refine x_iadd dX10_below_77 (by unfold okI; omega) ?_
              refine x_icmp_ge 119 dX10_below_78 (by decide) (fun c_78 => ?_) (fun c_78 => ?_)
              · refine x_aload_n 0 dX10_below_119 rfl rfl ?_
                refine x_iload 4 dX10_below_120 rfl ?_
                refine x_if_eq 129 dX10_below_122 (by decide) (fun c_122 => ?_) (fun c_122 => ?_)
                · refine x_iconst dX10_below_129 (okI_c rfl) ?_
                  refine x_callV [vI 0] dX10_below_130 kv_X10_73 rfl rfl hm (by omega) (Nat.le_of_ble_eq_true rfl) (by omega) (by omega) (k_X10_fine (d := 0) (S := S)  (hM)) (fun r1 h1 q1 => ?_)
                  obtain ⟨rfl, hCz, hFz⟩ := q1
                  exact x_ireturn dX10_below_133 rfl (by omega) (by omega) (outM (by rw [oBelow, cond_f (fun z => z.elim (fun y => y p_5) (fun y => y p_13)), if_neg (show ¬ sP S f g = -1 by omega), hx1]; exact congrArg (fun z : Int => (z, sLa 0 S)) (b2i_f (fun z => b2i_eq (P := (sGi S f x1 ≤ sGi S g x1 ∧ ∀ u : Int, 0 ≤ u → u < t → sF S f u ≤ sF S g u)) (by rw [← hie]; exact c_122) ⟨z.1, fun u q1 q2 => z.2 u q1 (by omega)⟩))) hCz (MFr.trans MFr.refl hFz))
                · refine x_iconst dX10_below_125 (okI_c rfl) ?_
                  refine x_goto 130 dX10_below_126 (by decide) ?_
                  refine x_callV [vI 1] dX10_below_130 kv_X10_73 rfl rfl hm (by omega) (Nat.le_of_ble_eq_true rfl) (by omega) (by omega) (k_X10_fine (d := 0) (S := S)  (hM)) (fun r1 h1 q1 => ?_)
                  obtain ⟨rfl, hCz, hFz⟩ := q1
                  exact x_ireturn dX10_below_133 rfl (by omega) (by omega) (outM (by rw [oBelow, cond_f (fun z => z.elim (fun y => y p_5) (fun y => y p_13)), if_neg (show ¬ sP S f g = -1 by omega), hx1]; exact congrArg (fun z : Int => (z, sLa 0 S)) (b2i_t (by have z := b2i_ne (P := (sGi S f x1 ≤ sGi S g x1 ∧ ∀ u : Int, 0 ≤ u → u < t → sF S f u ≤ sF S g u)) (by rw [← hie]; exact c_122); exact ⟨z.1, fun u q1 q2 => z.2 u q1 (by omega)⟩))) hCz (MFr.trans MFr.refl hFz))
              · refine x_iload 4 dX10_below_81 rfl ?_
                refine x_if_eq 119 dX10_below_83 (by decide) (fun c_83 => ?_) (fun c_83 => ?_)
                · refine x_aload_n 0 dX10_below_119 rfl rfl ?_
                  refine x_iload 4 dX10_below_120 rfl ?_
                  refine x_if_eq 129 dX10_below_122 (by decide) (fun c_122 => ?_) (fun c_122 => ?_)
                  · refine x_iconst dX10_below_129 (okI_c rfl) ?_
                    refine x_callV [vI 0] dX10_below_130 kv_X10_73 rfl rfl hm (by omega) (Nat.le_of_ble_eq_true rfl) (by omega) (by omega) (k_X10_fine (d := 0) (S := S)  (hM)) (fun r1 h1 q1 => ?_)
                    obtain ⟨rfl, hCz, hFz⟩ := q1
                    exact x_ireturn dX10_below_133 rfl (by omega) (by omega) (outM (by rw [oBelow, cond_f (fun z => z.elim (fun y => y p_5) (fun y => y p_13)), if_neg (show ¬ sP S f g = -1 by omega), hx1]; exact congrArg (fun z : Int => (z, sLa 0 S)) (b2i_f (fun z => b2i_eq (P := (sGi S f x1 ≤ sGi S g x1 ∧ ∀ u : Int, 0 ≤ u → u < t → sF S f u ≤ sF S g u)) (by rw [← hie]; exact c_122) ⟨z.1, fun u q1 q2 => z.2 u q1 (by omega)⟩))) hCz (MFr.trans MFr.refl hFz))
                  · refine x_iconst dX10_below_125 (okI_c rfl) ?_
                    refine x_goto 130 dX10_below_126 (by decide) ?_
                    refine x_callV [vI 1] dX10_below_130 kv_X10_73 rfl rfl hm (by omega) (Nat.le_of_ble_eq_true rfl) (by omega) (by omega) (k_X10_fine (d := 0) (S := S)  (hM)) (fun r1 h1 q1 => ?_)
                    obtain ⟨rfl, hCz, hFz⟩ := q1
                    exact x_ireturn dX10_below_133 rfl (by omega) (by omega) (outM (by rw [oBelow, cond_f (fun z => z.elim (fun y => y p_5) (fun y => y p_13)), if_neg (show ¬ sP S f g = -1 by omega), hx1]; exact congrArg (fun z : Int => (z, sLa 0 S)) (b2i_t (by have z := b2i_ne (P := (sGi S f x1 ≤ sGi S g x1 ∧ ∀ u : Int, 0 ≤ u → u < t → sF S f u ≤ sF S g u)) (by rw [← hie]; exact c_122); exact ⟨z.1, fun u q1 q2 => z.2 u q1 (by omega)⟩))) hCz (MFr.trans MFr.refl hFz))
                · have hpp : (sGi S f x1 ≤ sGi S g x1 ∧ ∀ u : Int, 0 ≤ u → u < t → sF S f u ≤ sF S g u) := b2i_ne (by rw [← hie]; exact c_83)
                  refine x_aload_n 0 dX10_below_86 rfl rfl ?_
                  refine x_iload_n 1 dX10_below_87 rfl rfl ?_
                  refine x_iload 5 dX10_below_88 rfl ?_
                  refine x_i2l dX10_below_90 ?_
                  refine x_callV [vI f, vJ t] dX10_below_91 kv_X10_95 rfl rfl hm (by omega) (Nat.le_of_ble_eq_true rfl) (by omega) (by omega) (k_X10_value (d := 0) hM hS (f := f) (t := t) hf (by omega) (by omega)) (after_ret ?_)
                  refine x_aload_n 0 dX10_below_94 rfl rfl ?_
                  refine x_iload_n 2 dX10_below_95 rfl rfl ?_
                  refine x_iload 5 dX10_below_96 rfl ?_
                  refine x_i2l dX10_below_98 ?_
                  refine x_callV [vI g, vJ t] dX10_below_99 kv_X10_95 rfl rfl hm (by omega) (Nat.le_of_ble_eq_true rfl) (by omega) (by omega) (k_X10_value (d := 0) hM hS (f := g) (t := t) hg (by omega) (by omega)) (after_ret ?_)
                  refine x_lc_gt 110 dX10_below_102 dX10_below_103 (by decide) (fun c_102 => ?_) (fun c_102 => ?_)
                  · refine x_iconst dX10_below_110 (okI_c rfl) ?_
                    refine x_istore (L' := [(4, vI 0), (0, vA m), (1, vI f), (2, vI g), (3, vI x1), (5, vI t)]) dX10_below_111 (Nat.le_of_ble_eq_true rfl) rfl ?_
                    refine x_iinc 5 (L' := [(5, vI (t + 1)), (4, vI 0), (0, vA m), (1, vI f), (2, vI g), (3, vI x1)]) dX10_below_113 rfl (by unfold okI; omega) (Nat.le_of_ble_eq_true rfl) rfl ?_
                    refine x_goto 68 dX10_below_116 (by decide) ?_
                    exact EX.pick [2, 3, 4, 5, 1, 0] rfl (ih_68 0 (t + 1)  (by omega) (by omega) (by omega) (b2i_f (fun z => by have := z.2 t (by omega) (by omega); omega)).symm)
                  · refine x_iconst dX10_below_106 (okI_c rfl) ?_
                    refine x_goto 111 dX10_below_107 (by decide) ?_
                    refine x_istore (L' := [(4, vI 1), (0, vA m), (1, vI f), (2, vI g), (3, vI x1), (5, vI t)]) dX10_below_111 (Nat.le_of_ble_eq_true rfl) rfl ?_
                    refine x_iinc 5 (L' := [(5, vI (t + 1)), (4, vI 1), (0, vA m), (1, vI f), (2, vI g), (3, vI x1)]) dX10_below_113 rfl (by unfold okI; omega) (Nat.le_of_ble_eq_true rfl) rfl ?_
                    refine x_goto 68 dX10_below_116 (by decide) ?_
                    exact EX.pick [2, 3, 4, 5, 1, 0] rfl (ih_68 1 (t + 1)  (by omega) (by omega) (by omega) (b2i_t ⟨hpp.1, fun u q1 q2 => by by_cases q : u = t; subst q; exact c_102; exact hpp.2 u q1 (by omega)⟩).symm)
          exact EX.pick [3, 4, 5, 2, 1, 0] rfl (loop_68 ((max (sT S f) (sT S g) + x1 - (0 : Int)).toNat + 1) 0 0  (Nat.lt_succ_self _) (by omega) (by omega) (b2i_f (fun z => by have := z.1; omega)).symm)
        · refine x_iconst dX10_below_58 (okI_c rfl) ?_
          refine x_goto 63 dX10_below_59 (by decide) ?_
          refine x_istore (L' := [(4, vI 1), (3, vI x1), (0, vA m), (1, vI f), (2, vI g)]) dX10_below_63 (Nat.le_of_ble_eq_true rfl) rfl ?_
          refine x_iconst dX10_below_65 (okI_c rfl) ?_
          refine x_istore (L' := [(5, vI 0), (4, vI 1), (3, vI x1), (0, vA m), (1, vI f), (2, vI g)]) dX10_below_66 (Nat.le_of_ble_eq_true rfl) rfl ?_
          have loop_68 : ∀ (k_68 : Nat) (ie : Int) (t : Int) , (max (sT S f) (sT S g) + x1 - t).toNat < k_68 → (0 ≤ t) → (t ≤ max (sT S f) (sT S g) + x1) → (ie = b2i (sGi S f x1 ≤ sGi S g x1 ∧ ∀ u : Int, 0 ≤ u → u < t → sF S f u ≤ sF S g u)) → EX G mX10_below d 0 0 (MOut m b1 b2 b3 b4 b5 b6 b7 b8 b9 lo hi h vI (oBelow f g S)) 68 [(0, vA m), (1, vI f), (2, vI g), (3, vI x1), (4, vI ie), (5, vI t)] [] h 0 0 := by
            intro k_68
            induction k_68 with
            | zero => intro ie t hm; exact absurd hm (Nat.not_lt_zero _)
            | succ k_68 ih_68 =>
              intro ie t hm_68 ht0 ht1 hie
              refine x_iload 5 dX10_below_68 rfl ?_
              refine x_aload_n 0 dX10_below_70 rfl rfl ?_
              refine x_iload_n 1 dX10_below_71 rfl rfl ?_
              refine x_iload_n 2 dX10_below_72 rfl rfl ?_
              refine x_callV [vI f, vI g] dX10_below_73 kv_X10_141 rfl rfl hm (by omega) (Nat.le_of_ble_eq_true rfl) (by omega) (by omega) (k_X10_latest (d := 0) hM hS hf hg) (after_ret ?_)
              refine x_iload_n 3 dX10_below_76 rfl rfl ?_
              refine x_iadd dX10_below_77 (by unfold okI; omega) ?_
              refine x_icmp_ge 119 dX10_below_78 (by decide) (fun c_78 => ?_) (fun c_78 => ?_)
              · refine x_aload_n 0 dX10_below_119 rfl rfl ?_
                refine x_iload 4 dX10_below_120 rfl ?_
                refine x_if_eq 129 dX10_below_122 (by decide) (fun c_122 => ?_) (fun c_122 => ?_)
                · refine x_iconst dX10_below_129 (okI_c rfl) ?_
                  refine x_callV [vI 0] dX10_below_130 kv_X10_73 rfl rfl hm (by omega) (Nat.le_of_ble_eq_true rfl) (by omega) (by omega) (k_X10_fine (d := 0) (S := S)  (hM)) (fun r1 h1 q1 => ?_)
                  obtain ⟨rfl, hCz, hFz⟩ := q1
                  exact x_ireturn dX10_below_133 rfl (by omega) (by omega) (outM (by rw [oBelow, cond_f (fun z => z.elim (fun y => y p_5) (fun y => y p_13)), if_neg (show ¬ sP S f g = -1 by omega), hx1]; exact congrArg (fun z : Int => (z, sLa 0 S)) (b2i_f (fun z => b2i_eq (P := (sGi S f x1 ≤ sGi S g x1 ∧ ∀ u : Int, 0 ≤ u → u < t → sF S f u ≤ sF S g u)) (by rw [← hie]; exact c_122) ⟨z.1, fun u q1 q2 => z.2 u q1 (by omega)⟩))) hCz (MFr.trans MFr.refl hFz))
                · refine x_iconst dX10_below_125 (okI_c rfl) ?_
                  refine x_goto 130 dX10_below_126 (by decide) ?_
                  refine x_callV [vI 1] dX10_below_130 kv_X10_73 rfl rfl hm (by omega) (Nat.le_of_ble_eq_true rfl) (by omega) (by omega) (k_X10_fine (d := 0) (S := S)  (hM)) (fun r1 h1 q1 => ?_)
                  obtain ⟨rfl, hCz, hFz⟩ := q1
                  exact x_ireturn dX10_below_133 rfl (by omega) (by omega) (outM (by rw [oBelow, cond_f (fun z => z.elim (fun y => y p_5) (fun y => y p_13)), if_neg (show ¬ sP S f g = -1 by omega), hx1]; exact congrArg (fun z : Int => (z, sLa 0 S)) (b2i_t (by have z := b2i_ne (P := (sGi S f x1 ≤ sGi S g x1 ∧ ∀ u : Int, 0 ≤ u → u < t → sF S f u ≤ sF S g u)) (by rw [← hie]; exact c_122); exact ⟨z.1, fun u q1 q2 => z.2 u q1 (by omega)⟩))) hCz (MFr.trans MFr.refl hFz))
              · refine x_iload 4 dX10_below_81 rfl ?_
                refine x_if_eq 119 dX10_below_83 (by decide) (fun c_83 => ?_) (fun c_83 => ?_)
                · refine x_aload_n 0 dX10_below_119 rfl rfl ?_
                  refine x_iload 4 dX10_below_120 rfl ?_
                  refine x_if_eq 129 dX10_below_122 (by decide) (fun c_122 => ?_) (fun c_122 => ?_)
                  · refine x_iconst dX10_below_129 (okI_c rfl) ?_
                    refine x_callV [vI 0] dX10_below_130 kv_X10_73 rfl rfl hm (by omega) (Nat.le_of_ble_eq_true rfl) (by omega) (by omega) (k_X10_fine (d := 0) (S := S)  (hM)) (fun r1 h1 q1 => ?_)
                    obtain ⟨rfl, hCz, hFz⟩ := q1
                    exact x_ireturn dX10_below_133 rfl (by omega) (by omega) (outM (by rw [oBelow, cond_f (fun z => z.elim (fun y => y p_5) (fun y => y p_13)), if_neg (show ¬ sP S f g = -1 by omega), hx1]; exact congrArg (fun z : Int => (z, sLa 0 S)) (b2i_f (fun z => b2i_eq (P := (sGi S f x1 ≤ sGi S g x1 ∧ ∀ u : Int, 0 ≤ u → u < t → sF S f u ≤ sF S g u)) (by rw [← hie]; exact c_122) ⟨z.1, fun u q1 q2 => z.2 u q1 (by omega)⟩))) hCz (MFr.trans MFr.refl hFz))
                  · refine x_iconst dX10_below_125 (okI_c rfl) ?_
                    refine x_goto 130 dX10_below_126 (by decide) ?_
                    refine x_callV [vI 1] dX10_below_130 kv_X10_73 rfl rfl hm (by omega) (Nat.le_of_ble_eq_true rfl) (by omega) (by omega) (k_X10_fine (d := 0) (S := S)  (hM)) (fun r1 h1 q1 => ?_)
                    obtain ⟨rfl, hCz, hFz⟩ := q1
                    exact x_ireturn dX10_below_133 rfl (by omega) (by omega) (outM (by rw [oBelow, cond_f (fun z => z.elim (fun y => y p_5) (fun y => y p_13)), if_neg (show ¬ sP S f g = -1 by omega), hx1]; exact congrArg (fun z : Int => (z, sLa 0 S)) (b2i_t (by have z := b2i_ne (P := (sGi S f x1 ≤ sGi S g x1 ∧ ∀ u : Int, 0 ≤ u → u < t → sF S f u ≤ sF S g u)) (by rw [← hie]; exact c_122); exact ⟨z.1, fun u q1 q2 => z.2 u q1 (by omega)⟩))) hCz (MFr.trans MFr.refl hFz))
                · have hpp : (sGi S f x1 ≤ sGi S g x1 ∧ ∀ u : Int, 0 ≤ u → u < t → sF S f u ≤ sF S g u) := b2i_ne (by rw [← hie]; exact c_83)
                  refine x_aload_n 0 dX10_below_86 rfl rfl ?_
                  refine x_iload_n 1 dX10_below_87 rfl rfl ?_
                  refine x_iload 5 dX10_below_88 rfl ?_
                  refine x_i2l dX10_below_90 ?_
                  refine x_callV [vI f, vJ t] dX10_below_91 kv_X10_95 rfl rfl hm (by omega) (Nat.le_of_ble_eq_true rfl) (by omega) (by omega) (k_X10_value (d := 0) hM hS (f := f) (t := t) hf (by omega) (by omega)) (after_ret ?_)
                  refine x_aload_n 0 dX10_below_94 rfl rfl ?_
                  refine x_iload_n 2 dX10_below_95 rfl rfl ?_
                  refine x_iload 5 dX10_below_96 rfl ?_
                  refine x_i2l dX10_below_98 ?_
                  refine x_callV [vI g, vJ t] dX10_below_99 kv_X10_95 rfl rfl hm (by omega) (Nat.le_of_ble_eq_true rfl) (by omega) (by omega) (k_X10_value (d := 0) hM hS (f := g) (t := t) hg (by omega) (by omega)) (after_ret ?_)
                  refine x_lc_gt 110 dX10_below_102 dX10_below_103 (by decide) (fun c_102 => ?_) (fun c_102 => ?_)
                  · refine x_iconst dX10_below_110 (okI_c rfl) ?_
                    refine x_istore (L' := [(4, vI 0), (0, vA m), (1, vI f), (2, vI g), (3, vI x1), (5, vI t)]) dX10_below_111 (Nat.le_of_ble_eq_true rfl) rfl ?_
                    refine x_iinc 5 (L' := [(5, vI (t + 1)), (4, vI 0), (0, vA m), (1, vI f), (2, vI g), (3, vI x1)]) dX10_below_113 rfl (by unfold okI; omega) (Nat.le_of_ble_eq_true rfl) rfl ?_
                    refine x_goto 68 dX10_below_116 (by decide) ?_
                    exact EX.pick [2, 3, 4, 5, 1, 0] rfl (ih_68 0 (t + 1)  (by omega) (by omega) (by omega) (b2i_f (fun z => by have := z.2 t (by omega) (by omega); omega)).symm)
                  · refine x_iconst dX10_below_106 (okI_c rfl) ?_
                    refine x_goto 111 dX10_below_107 (by decide) ?_
                    refine x_istore (L' := [(4, vI 1), (0, vA m), (1, vI f), (2, vI g), (3, vI x1), (5, vI t)]) dX10_below_111 (Nat.le_of_ble_eq_true rfl) rfl ?_
                    refine x_iinc 5 (L' := [(5, vI (t + 1)), (4, vI 1), (0, vA m), (1, vI f), (2, vI g), (3, vI x1)]) dX10_below_113 rfl (by unfold okI; omega) (Nat.le_of_ble_eq_true rfl) rfl ?_
                    refine x_goto 68 dX10_below_116 (by decide) ?_
                    exact EX.pick [2, 3, 4, 5, 1, 0] rfl (ih_68 1 (t + 1)  (by omega) (by omega) (by omega) (b2i_t ⟨hpp.1, fun u q1 q2 => by by_cases q : u = t; subst q; exact c_102; exact hpp.2 u q1 (by omega)⟩).symm)
          exact EX.pick [3, 4, 5, 2, 1, 0] rfl (loop_68 ((max (sT S f) (sT S g) + x1 - (0 : Int)).toNat + 1) 1 0  (Nat.lt_succ_self _) (by omega) (by omega) (b2i_t ⟨c_54, fun u q1 q2 => by omega⟩).symm)
      · refine x_aload_n 1 dX10_below_35 rfl rfl ?_
        refine x_bipush dX10_below_36 (okI_c rfl) (by decide +kernel) ?_
        refine x_callV [vI ((-4))] dX10_below_38 kv_X10_58 rfl rfl hm (by omega) (Nat.le_of_ble_eq_true rfl) (by omega) (by omega) (k_X10_refuse (d := 0) (S := S)  (hM)) (fun r1 h1 q1 => ?_)
        obtain ⟨rfl, hCz, hFz⟩ := q1
        exact x_ireturn dX10_below_41 rfl (by omega) (by omega) (outM (by rw [oBelow, cond_f (fun z => z.elim (fun y => y p_5) (fun y => y p_13)), if_pos (hxn (by omega))]; rfl) hCz (MFr.trans MFr.refl hFz))
    · have p_13 := b2i_eq c_13
      refine x_aload_n 0 dX10_below_16 rfl rfl ?_
      refine x_iconst dX10_below_17 (okI_c rfl) ?_
      refine x_callV [vI ((-1))] dX10_below_18 kv_X10_58 rfl rfl hm (by omega) (Nat.le_of_ble_eq_true rfl) (by omega) (by omega) (k_X10_refuse (d := 0) (S := S)  (hM)) (fun r1 h1 q1 => ?_)
      obtain ⟨rfl, hCz, hFz⟩ := q1
      exact x_ireturn dX10_below_21 rfl (by omega) (by omega) (outM (by rw [oBelow, cond_t (by first | exact Or.inl p_5 | exact Or.inr p_13)]; rfl) hCz (MFr.trans MFr.refl hFz))
