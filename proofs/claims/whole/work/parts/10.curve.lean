/-! ===== Tally, Curve and its kinds ===== -/
theorem mulB {x y X Y : Int} (hx : 0 ≤ x) (hy : 0 ≤ y) (hX : x ≤ X) (hY : y ≤ Y) : 0 ≤ x * y ∧ x * y ≤ X * Y :=
  ⟨Int.mul_nonneg hx hy, Int.mul_le_mul hX hY hy (Int.le_trans hx hX)⟩
theorem divB {x y : Int} (hx : 0 ≤ x) (hy : 0 < y) : 0 ≤ x / y ∧ x / y ≤ x := ⟨Int.ediv_nonneg hx (by omega), Int.ediv_le_self _ hx⟩
theorem modB {x y : Int} (hy : 0 < y) : 0 ≤ x % y ∧ x % y < y := ⟨Int.emod_nonneg _ (by omega), Int.emod_lt_of_pos _ hy⟩
set_option maxRecDepth 100000 in
set_option maxHeartbeats 4000000 in
theorem k_X8_mark {G : aG} {d : Nat} {h : aH} {t mk : Nat} {g : Nat → Int} {b : Int} (ht : h t = some (eO 7 [vA mk])) (hm : h mk = some (eI 5 g)) (hb0 : 0 ≤ b) (hb : b < 5) (hg : okI (g b.toNat + 1)) : MC G mX8_mark d 0 0 [vA t, vI b] h (Voi (hset h mk (eI 5 (va_up g b.toNat (g b.toNat + 1))))) := by
  refine MC.of (by decide) (Nat.le_of_ble_eq_true rfl) (fun ok okh => ?_)
  show EX G mX8_mark d 0 0 _ 0 [(0, vA t), (1, vI b)] [] h 0 0
  refine x_iload_n 1 dX8_mark_0 rfl rfl ?_
  refine x_if_lt 23 dX8_mark_1 (by decide) (fun c_1 => (by exfalso; omega)) (fun c_1 => ?_)
  refine x_iload_n 1 dX8_mark_4 rfl rfl ?_
  refine x_aload_n 0 dX8_mark_5 rfl rfl ?_
  refine x_get 0 dX8_mark_6 fl_X8_9 ht rfl ?_
  refine x_alenI dX8_mark_9 hm (by omega) ?_
  refine x_icmp_ge 23 dX8_mark_10 (by decide) (fun c_10 => (by exfalso; omega)) (fun c_10 => ?_)
  refine x_aload_n 0 dX8_mark_13 rfl rfl ?_
  refine x_get 0 dX8_mark_14 fl_X8_9 ht rfl ?_
  refine x_iload_n 1 dX8_mark_17 rfl rfl ?_
  refine x_dup2 dX8_mark_18 rfl rfl ?_
  refine x_iaload dX8_mark_19 hm (by omega) (by omega) ?_
  refine x_iconst dX8_mark_20 (okI_c rfl) ?_
  refine x_iadd dX8_mark_21 hg ?_
  refine x_iastore dX8_mark_22 hm (by omega) (by omega) ?_
  exact x_return dX8_mark_23 rfl (by decide) (by decide) ⟨rfl, rfl⟩
set_option maxRecDepth 100000 in
set_option maxHeartbeats 4000000 in
theorem k_X8_marks {G : aG} {d : Nat} {h : aH} {t mk : Nat} {g : Nat → Int} {b : Int} (ht : h t = some (eO 7 [vA mk])) (hm : h mk = some (eI 5 g)) (hb0 : 0 ≤ b) (hb : b < 5) : MC G mX8_marks d 0 0 [vA t, vI b] h (Ret (vI (g b.toNat)) h) := by
  refine MC.of (by decide) (Nat.le_of_ble_eq_true rfl) (fun ok okh => ?_)
  show EX G mX8_marks d 0 0 _ 0 [(0, vA t), (1, vI b)] [] h 0 0
  refine x_iload_n 1 dX8_marks_0 rfl rfl ?_
  refine x_if_lt 13 dX8_marks_1 (by decide) (fun c_1 => (by exfalso; omega)) (fun c_1 => ?_)
  refine x_iload_n 1 dX8_marks_4 rfl rfl ?_
  refine x_aload_n 0 dX8_marks_5 rfl rfl ?_
  refine x_get 0 dX8_marks_6 fl_X8_9 ht rfl ?_
  refine x_alenI dX8_marks_9 hm (by omega) ?_
  refine x_icmp_lt 17 dX8_marks_10 (by decide) (fun c_10 => ?_) (fun c_10 => (by exfalso; omega))
  refine x_aload_n 0 dX8_marks_17 rfl rfl ?_
  refine x_get 0 dX8_marks_18 fl_X8_9 ht rfl ?_
  refine x_iload_n 1 dX8_marks_21 rfl rfl ?_
  refine x_iaload dX8_marks_22 hm (by omega) (by omega) ?_
  exact x_ireturn dX8_marks_23 rfl (by decide) (by decide) ⟨rfl, rfl⟩
set_option maxRecDepth 100000 in
set_option maxHeartbeats 4000000 in
theorem k_X1_amount {G : aG} {d : Nat} {h : aH} {c ci a : Nat} {T D C ld : Int} {am : Nat → Int} (hcv : CvAt h c ci a T D C am ld) (hok : CvOk T D C am) {t : Int} (ht0 : 0 ≤ t) : MC G mX1_amount d 0 0 [vA c, vI t] h (Ret (vJ (cval T D C am t)) h) := by
  obtain ⟨hT0, hT2, hD0, hD6, hC0, hC1, hA, hM, hW⟩ := id hok
  refine MC.of (by decide) (Nat.le_of_ble_eq_true rfl) (fun ok okh => ?_)
  show EX G mX1_amount d 0 0 _ 0 [(0, vA c), (1, vI t)] [] h 0 0
  have okt : okI t := ok (vI t) (by simp)
  unfold okI at okt
  refine x_iload_n 1 dX1_amount_0 rfl rfl ?_
  refine x_if_lt 12 dX1_amount_1 (by decide) (fun c_1 => (by exfalso; omega)) (fun c_1 => ?_)
  refine x_aload_n 0 dX1_amount_4 rfl rfl ?_
  refine x_get 1 dX1_amount_5 (fl_X1_15 _ hcv.2.2) hcv.1 rfl ?_
  refine x_iconst dX1_amount_8 (okI_c rfl) ?_
  refine x_icmp_ge 14 dX1_amount_9 (by decide) (fun c_9 => ?_) (fun c_9 => (by exfalso; omega))
  refine x_iload_n 1 dX1_amount_14 rfl rfl ?_
  refine x_aload_n 0 dX1_amount_15 rfl rfl ?_
  refine x_get 3 dX1_amount_16 (fl_X1_21 _ hcv.2.2) hcv.1 rfl ?_
  refine x_alenJ dX1_amount_19 hcv.2.1 (by omega) ?_
  refine x_icmp_ge 30 dX1_amount_20 (by decide) (fun c_20 => ?_) (fun c_20 => ?_)
  · refine x_iload_n 1 dX1_amount_30 rfl rfl ?_
    refine x_aload_n 0 dX1_amount_31 rfl rfl ?_
    refine x_get 0 dX1_amount_32 (fl_X1_9 _ hcv.2.2) hcv.1 rfl ?_
    refine x_isub dX1_amount_35 (by unfold okI; omega) ?_
    refine x_nmI (fun x1 e_x1 => ?_)
    refine x_istore_n (L' := [(2, vI x1), (0, vA c), (1, vI t)]) dX1_amount_36 rfl (Nat.le_of_ble_eq_true rfl) rfl ?_
    refine x_aload_n 1 dX1_amount_37 rfl rfl ?_
    refine x_get 0 dX1_amount_38 (fl_X1_9 _ hcv.2.2) hcv.1 rfl ?_
    refine x_iload_n 0 dX1_amount_41 rfl rfl ?_
    refine x_aload_n 1 dX1_amount_42 rfl rfl ?_
    refine x_get 1 dX1_amount_43 (fl_X1_15 _ hcv.2.2) hcv.1 rfl ?_
    
    refine x_irem dX1_amount_46 (by omega) (by omega) ?_
    have hmb := modB (x := x1) (show 0 < D by omega)
    refine x_iadd dX1_amount_47 (by unfold okI; omega) ?_
    refine x_nmI (fun x2 e_x2 => ?_)
    refine x_istore_n (L' := [(3, vI x2), (2, vI x1), (0, vA c), (1, vI t)]) dX1_amount_48 rfl (Nat.le_of_ble_eq_true rfl) rfl ?_
    refine x_iload_n 0 dX1_amount_49 rfl rfl ?_
    refine x_if_lt 62 dX1_amount_50 (by decide) (fun c_50 => (by exfalso; omega)) (fun c_50 => ?_)
    refine x_iload_n 0 dX1_amount_53 rfl rfl ?_
    refine x_aload_n 2 dX1_amount_54 rfl rfl ?_
    refine x_get 3 dX1_amount_55 (fl_X1_21 _ hcv.2.2) hcv.1 rfl ?_
    refine x_alenJ dX1_amount_58 hcv.2.1 (by omega) ?_
    refine x_icmp_lt 64 dX1_amount_59 (by decide) (fun c_59 => ?_) (fun c_59 => (by exfalso; omega))
    refine x_aload_n 2 dX1_amount_64 rfl rfl ?_
    refine x_get 3 dX1_amount_65 (fl_X1_21 _ hcv.2.2) hcv.1 rfl ?_
    refine x_iload_n 0 dX1_amount_68 rfl rfl ?_
    refine x_laload dX1_amount_69 hcv.2.1 (by omega) (by omega) ?_
    refine x_iload_n 1 dX1_amount_70 rfl rfl ?_
    refine x_aload_n 2 dX1_amount_71 rfl rfl ?_
    refine x_get 1 dX1_amount_72 (fl_X1_15 _ hcv.2.2) hcv.1 rfl ?_
    refine x_idiv dX1_amount_75 (by omega) (by omega) ?_
    refine x_i2l dX1_amount_76 ?_
    refine x_aload_n 2 dX1_amount_77 rfl rfl ?_
    refine x_get 2 dX1_amount_78 (fl_X1_18 _ hcv.2.2) hcv.1 rfl ?_
    refine x_i2l dX1_amount_81 ?_
    have hqc := divB (x := x1) (show 0 ≤ x1 by omega) (show 0 < D by omega)
    have hmu := mulB (x := x1 / D) (y := C) (X := 2147483647) (Y := 1000000000) hqc.1 hC0 (by omega) hC1
    refine x_lmul dX1_amount_82 (by unfold okJ; omega) ?_
    have hqb := divB (x := x1) (show 0 ≤ x1 by omega) (show 0 < D by omega)
    have hq2 := hA x2 (by omega) (by omega)
    refine x_ladd dX1_amount_83 (by unfold okJ; omega) ?_
    exact x_lreturn dX1_amount_84 rfl (by decide) (by decide) (retJ (by rw [cval, if_neg (by omega), e_x2, e_x1]))
  · refine x_aload_n 0 dX1_amount_23 rfl rfl ?_
    refine x_get 3 dX1_amount_24 (fl_X1_21 _ hcv.2.2) hcv.1 rfl ?_
    refine x_iload_n 1 dX1_amount_27 rfl rfl ?_
    refine x_laload dX1_amount_28 hcv.2.1 (by omega) (by omega) ?_
    exact x_lreturn dX1_amount_29 rfl (by decide) (by decide) (retJ (by rw [cval, if_pos (by omega)]))
set_option maxRecDepth 100000 in
set_option maxHeartbeats 4000000 in
theorem k_X1_gainIn {G : aG} {d : Nat} {h : aH} {c ci a : Nat} {T D C ld : Int} {am : Nat → Int} (hcv : CvAt h c ci a T D C am ld) (hok : CvOk T D C am) {p : Int} (hp0 : 0 ≤ p) (hp : p ≤ 1000) : MC G mX1_gainIn d 0 0 [vA c, vI p] h (Ret (vJ (C * (p / D))) h) := by
  obtain ⟨hT0, hT2, hD0, hD6, hC0, hC1, hA, hM, hW⟩ := id hok
  refine MC.of (by decide) (Nat.le_of_ble_eq_true rfl) (fun ok okh => ?_)
  show EX G mX1_gainIn d 0 0 _ 0 [(0, vA c), (1, vI p)] [] h 0 0
  refine x_aload_n 0 dX1_gainIn_0 rfl rfl ?_
  refine x_get 1 dX1_gainIn_1 (fl_X1_15 _ hcv.2.2) hcv.1 rfl ?_
  refine x_iconst dX1_gainIn_4 (okI_c rfl) ?_
  refine x_icmp_ge 12 dX1_gainIn_5 (by decide) (fun c_5 => ?_) (fun c_5 => (by exfalso; omega))
  refine x_aload_n 0 dX1_gainIn_12 rfl rfl ?_
  refine x_get 2 dX1_gainIn_13 (fl_X1_18 _ hcv.2.2) hcv.1 rfl ?_
  refine x_i2l dX1_gainIn_16 ?_
  refine x_iload_n 1 dX1_gainIn_17 rfl rfl ?_
  refine x_aload_n 0 dX1_gainIn_18 rfl rfl ?_
  refine x_get 1 dX1_gainIn_19 (fl_X1_15 _ hcv.2.2) hcv.1 rfl ?_
  refine x_idiv dX1_gainIn_22 (by omega) (by omega) ?_
  refine x_i2l dX1_gainIn_23 ?_
  have hqb := divB (x := p) hp0 (show 0 < D by omega)
  have hmu := mulB (x := C) (y := p / D) (X := 1000000000) (Y := 1000) hC0 hqb.1 hC1 (by omega)
  refine x_lmul dX1_gainIn_24 (by unfold okJ; omega) ?_
  exact x_lreturn dX1_gainIn_25 rfl (by decide) (by decide) ⟨rfl, rfl⟩
/-- a divisor that no greater one of the numbers is, is the greatest -/
theorem gcd_of {g s d : Int} (hg : 0 ≤ g) (hd : 1 ≤ d) (hds : d ≤ s) (h1 : g % d = 0) (h2 : s % d = 0) (hmax : ∀ e : Int, d < e → e ≤ s → ¬ (g % e = 0 ∧ s % e = 0)) : d = ((Int.gcd g s : Nat) : Int) := by
  have hdvd : d ∣ ((Int.gcd g s : Nat) : Int) := Int.dvd_coe_gcd (Int.dvd_of_emod_eq_zero h1) (Int.dvd_of_emod_eq_zero h2)
  have hpos : 0 < Int.gcd g s := Int.gcd_pos_of_ne_zero_right _ (by omega)
  have hle : d ≤ ((Int.gcd g s : Nat) : Int) := Int.le_of_dvd (by omega) hdvd
  have hgs : ((Int.gcd g s : Nat) : Int) ≤ s := Int.le_of_dvd (by omega) (Int.gcd_dvd_right g s)
  rcases Int.lt_or_eq_of_le hle with q | q
  · exact absurd ⟨Int.emod_eq_zero_of_dvd (Int.gcd_dvd_left g s), Int.emod_eq_zero_of_dvd (Int.gcd_dvd_right g s)⟩ (hmax _ q hgs)
  · exact q
set_option maxRecDepth 100000 in
set_option maxHeartbeats 4000000 in
theorem k_X1_shared {G : aG} {d : Nat} {h : aH} {c ci a : Nat} {T D C ld : Int} {am : Nat → Int} (hcv : CvAt h c ci a T D C am ld) (hok : CvOk T D C am) : MC G mX1_sharedByGainAndStep d 0 0 [vA c] h (Ret (vI ((Int.gcd C D : Nat) : Int)) h) := by
  obtain ⟨hT0, hT2, hD0, hD6, hC0, hC1, hA, hM, hW⟩ := id hok
  refine MC.of (by decide) (Nat.le_of_ble_eq_true rfl) (fun ok okh => ?_)
  show EX G mX1_sharedByGainAndStep d 0 0 _ 0 [(0, vA c)] [] h 0 0
  refine x_aload_n 0 dX1_sharedByGainAndStep_0 rfl rfl ?_
  refine x_get 1 dX1_sharedByGainAndStep_1 (fl_X1_15 _ hcv.2.2) hcv.1 rfl ?_
  refine x_istore_n (L' := [(1, vI D), (0, vA c)]) dX1_sharedByGainAndStep_4 rfl (Nat.le_of_ble_eq_true rfl) rfl ?_
  have loop_5 : ∀ (k_5 : Nat) (e : Int), (e).toNat < k_5 → 1 ≤ e → e ≤ D → (∀ z : Int, e < z → z ≤ D → ¬ (C % z = 0 ∧ D % z = 0)) → EX G mX1_sharedByGainAndStep d 0 0 (Ret (vI ((Int.gcd C D : Nat) : Int)) h) 5 [(0, vA c), (1, vI e)] [] h 0 0 := by
    intro k_5
    induction k_5 with
    | zero => intro e  hm; exact absurd hm (Nat.not_lt_zero _)
    | succ k_5 ih_5 =>
      intro e  hm_5 he0 heD hmx
      refine x_iload_n 1 dX1_sharedByGainAndStep_5 rfl rfl ?_
      refine x_iconst dX1_sharedByGainAndStep_6 (okI_c rfl) ?_
      refine x_icmp_le 36 dX1_sharedByGainAndStep_7 (by decide) (fun c_7 => ?_) (fun c_7 => ?_)
      · refine x_iconst dX1_sharedByGainAndStep_36 (okI_c rfl) ?_
        exact x_ireturn dX1_sharedByGainAndStep_37 rfl (by decide) (by decide) (retI (gcd_of hC0 (Int.le_refl 1) hD0 (Int.emod_one _) (Int.emod_one _) (fun z q1 q2 => hmx z (by omega) q2)))
      · refine x_aload_n 0 dX1_sharedByGainAndStep_10 rfl rfl ?_
        refine x_get 2 dX1_sharedByGainAndStep_11 (fl_X1_18 _ hcv.2.2) hcv.1 rfl ?_
        refine x_iload_n 1 dX1_sharedByGainAndStep_14 rfl rfl ?_
        refine x_irem dX1_sharedByGainAndStep_15 (by omega) (by omega) ?_
        refine x_if_ne 30 dX1_sharedByGainAndStep_16 (by decide) (fun c_16 => ?_) (fun c_16 => ?_)
        · refine x_iinc 1 (L' := [(1, vI (e + (-1))), (0, vA c)]) dX1_sharedByGainAndStep_30 rfl (by unfold okI; omega) (Nat.le_of_ble_eq_true rfl) rfl ?_
          refine x_goto 5 dX1_sharedByGainAndStep_33 (by decide) ?_
          exact EX.pick [1, 0] rfl (ih_5 (e + (-1))  (by omega) (by omega) (by omega) (fun z q1 q2 q3 => by rcases Int.lt_or_eq_of_le (show e ≤ z by omega) with q | q; exact hmx z q q2 q3; subst q; omega))
        · refine x_aload_n 0 dX1_sharedByGainAndStep_19 rfl rfl ?_
          refine x_get 1 dX1_sharedByGainAndStep_20 (fl_X1_15 _ hcv.2.2) hcv.1 rfl ?_
          refine x_iload_n 1 dX1_sharedByGainAndStep_23 rfl rfl ?_
          refine x_irem dX1_sharedByGainAndStep_24 (by omega) (by omega) ?_
          refine x_if_ne 30 dX1_sharedByGainAndStep_25 (by decide) (fun c_25 => ?_) (fun c_25 => ?_)
          · refine x_iinc 1 (L' := [(1, vI (e + (-1))), (0, vA c)]) dX1_sharedByGainAndStep_30 rfl (by unfold okI; omega) (Nat.le_of_ble_eq_true rfl) rfl ?_
            refine x_goto 5 dX1_sharedByGainAndStep_33 (by decide) ?_
            exact EX.pick [1, 0] rfl (ih_5 (e + (-1))  (by omega) (by omega) (by omega) (fun z q1 q2 q3 => by rcases Int.lt_or_eq_of_le (show e ≤ z by omega) with q | q; exact hmx z q q2 q3; subst q; omega))
          · refine x_iload_n 1 dX1_sharedByGainAndStep_28 rfl rfl ?_
            exact x_ireturn dX1_sharedByGainAndStep_29 rfl (by decide) (by decide) (retI (gcd_of hC0 he0 heD c_16 c_25 hmx))
  exact EX.pick [1, 0] rfl (loop_5 (((D)).toNat + 1) D  (Nat.lt_succ_self _) (by omega) (by omega) (fun z q1 q2 => absurd q1 (by omega)))
